/-! PATHS -/
def q_start (L : amL) (a : Int32) : amL := setL L 44 (vp_updL (q_fill (L 44) 16 0) a.toNatClampNeg 1)
def stS (f : Nat → Int64) (s : Int32) (b : Int64) : Nat → Int64
  | 0 => b
  | k + 1 => if bt s k = true then stS f s b k + f k else stS f s b k
def stV (L : amL) (src : Nat → Int32) (stays : Int32) (n x : Nat) : Int64 := stS (L 44) (src x) (if stays = 0 then 0 else L 44 x) n
def stN (L : amL) (src : Nat → Int32) (stays : Int32) (n k : Nat) : Nat → Int64 := fun x => if x < k then stV L src stays n x else L 45 x
def cp16 (f g : Nat → Int64) : Nat → Int64 := va_cpy f g (0 : Int32).toNatClampNeg (0 : Int32).toNatClampNeg (16 : Int32).toNatClampNeg
def q_step (L : amL) (src : Nat → Int32) (stays : Int32) (n : Nat) : amL := setL (setL L 45 (stN L src stays n n)) 44 (cp16 (stN L src stays n n) (L 44))
theorem cp16_in {f g : Nat → Int64} {j : Nat} (h : j < 16) : cp16 f g j = f j := by
  rw [cp16, pk_cpy_in (by show (0 : Int32).toNatClampNeg ≤ j; exact Nat.zero_le j) (by show j < (0 : Int32).toNatClampNeg + (16 : Int32).toNatClampNeg; exact h)]
  show f (0 + (j - 0)) = f j
  rw [Nat.zero_add, Nat.sub_zero]
def q_ch (I : amI) (L : amL) (p : Nat) (stays a : Int32) : Nat → amL
  | 0 => q_start L a
  | k + 1 => q_step (q_ch I L p stays a k) (I p) stays (sz I 3)
def sgn (s : Int32) : Nat → Int64
  | 0 => 1
  | k + 1 => sgn s k * s.toInt64
def q_ca (I : amI) (L : amL) (p : Nat) (a b s : Int32) : Nat → Int64
  | 0 => q_start L a 44 b.toNatClampNeg
  | k + 1 => q_ca I L p a b s k + sgn s (k + 1) * q_ch I L p 0 a (k + 1) 44 b.toNatClampNeg
def taJ (I : amI) (atom set : Int32) (x : Nat) : Int32 := q_least I 3 ((set &&& q_from I 3 (nI x)) &&& q_from I 3 atom)
def taN (I : amI) (now f : Nat → Int64) (atom set : Int32) : Nat → (Nat → Int64)
  | 0 => f
  | x + 1 => if (bt set x && decide (¬ taJ I atom set x < 0)) = true then vp_updL (taN I now f atom set x) (taJ I atom set x).toNatClampNeg (taN I now f atom set x (taJ I atom set x).toNatClampNeg - now x) else taN I now f atom set x
def q_ta (I : amI) (L : amL) (atom set : Int32) : amL := setL (setL L 45 (taN I (L 44) (cp16 (L 44) (L 45)) atom set (sz I 3))) 44 (cp16 (taN I (L 44) (cp16 (L 44) (L 45)) atom set (sz I 3)) (L 44))
def q_cc (I : amI) (L : amL) (a b : Int32) : Nat → amL
  | 0 => q_start L a
  | k + 1 => if bt (I 6 a.toNatClampNeg &&& q_between I 3 a b) k = true then q_ta I (q_cc I L a b k) (nI k) (q_between I 3 a b) else q_cc I L a b k
theorem scan_or {β : Type} {p : Nat → Bool} {r : Nat → β} {d : β} : ∀ (k i : Nat), scan p r d k i = d ∧ (∀ j, i ≤ j → j < i + k → p j = false) ∨ ∃ j, i ≤ j ∧ j < i + k ∧ p j = true ∧ scan p r d k i = r j ∧ ∀ w, i ≤ w → w < j → p w = false
  | 0, i => Or.inl ⟨rfl, fun j h1 h2 => absurd h2 (by omega)⟩
  | k + 1, i => by
    by_cases h : p i = true
    · refine Or.inr ⟨i, Nat.le_refl _, by omega, h, ?_, fun w h1 h2 => absurd h2 (by omega)⟩
      rw [scan, if_pos h]
    · rw [scan, if_neg h]
      rw [Bool.not_eq_true] at h
      rcases scan_or (p := p) (r := r) (d := d) k (i + 1) with ⟨g1, g2⟩ | ⟨j, g1, g2, g3, g4, g5⟩
      · refine Or.inl ⟨g1, fun j h1 h2 => ?_⟩
        by_cases e : j = i
        · rw [e]; exact h
        · exact g2 j (by omega) (by omega)
      · refine Or.inr ⟨j, by omega, by omega, g3, g4, fun w h1 h2 => ?_⟩
        by_cases e : w = i
        · rw [e]; exact h
        · exact g5 w (by omega) h2
theorem least_in {I : amI} {o : Nat} {s : Int32} (hs : szOk I o) (h : ¬ q_least I o s < 0) : ∃ x, x < 16 ∧ q_least I o s = nI x := by
  obtain ⟨n, hn1, h16, hn⟩ := hs
  unfold q_least at h ⊢
  rcases scan_or (p := p_least I o s) (r := nI) (d := (-2 : Int32)) (sz I o) 0 with ⟨g, -⟩ | ⟨j, g1, g2, g3, g4, -⟩
  · rw [g] at h
    exact absurd (by decide) h
  · rw [sz_eq hn h16] at g2
    exact ⟨j, by omega, g4⟩
set_option maxRecDepth 100000 in
set_option maxHeartbeats 4000000 in
theorem b_X5_start_0 {z : amZ} {post : amP} {G : amG} {I : amI} {L : amL} (hz : Go z cX5_start RX5 2 none 1 0 0 post) (hG : Lay G) {v1 : Int32} (h : vp_in v1 16 ∧ post none G I (setL (setL L 44 (q_fill (L 44) 16 (0 : Int64))) 44 (vp_updL ((setL L 44 (q_fill (L 44) 16 (0 : Int64))) 44) v1.toNatClampNeg (1 : Int64)))) : Wx z 0 0 0 [(0, .ref ((zB z).size + 43)), (1, .int v1)] [] G I L := by
  have hz1 := hz.1
  refine am_aload_n hz1 dX5_start_0 0 rfl rfl ?_
  refine am_getR hz1 fl_X5_9 (ln_43 hG) (lk_43 hG) (lr_43_1 hG) rfl dX5_start_1 ?_
  refine am_lconst (v := 0) hz1 dX5_start_4 (by decide) ?_
  refine am_cSf hz ct_X5_22 [.ref ((zB z).size + 44), .long (0 : Int64)] [] (c_J7_fill_d0a16 hG (ln_44 hG) (lk_44 hG) (ll_44 hG) (0 : Int64) (by decide)) rfl rfl rfl ⟨Nat.le_refl _, Nat.le_refl _⟩ (Nat.le_of_ble_eq_true rfl) dX5_start_5 ?_
  refine am_aload_n hz1 dX5_start_8 0 rfl rfl ?_
  refine am_getR hz1 fl_X5_9 (ln_43 hG) (lk_43 hG) (lr_43_1 hG) rfl dX5_start_9 ?_
  refine am_iload_n hz1 dX5_start_12 1 rfl rfl ?_
  refine am_lconst (v := 1) hz1 dX5_start_13 (by decide) ?_
  obtain ⟨g1, h⟩ := h
  refine am_last hz1 (ln_44 hG) (lk_44 hG) (by rw [(ll_44 hG)]; exact g1) dX5_start_14 ?_
  exact am_return hz dX5_start_15 h
set_option maxRecDepth 100000 in
set_option maxHeartbeats 4000000 in
theorem c_X5_start {l : Launch} {D : va_G} {B : Heap} {G : amG} {I : amI} {L : amL}  (hG : Lay G)  (v1 : Int32) (hi : vp_in v1 16) : Fx l D B yX5_start cX5_start 2 none 1 [.ref (B.size + 43), .int v1] G I L none I (q_start L v1) := by
  refine Mx.of (by decide) rfl rfl (fun z e1 e2 e3 hz => ?_)
  subst e1; subst e2; subst e3
  refine b_X5_start_0 hz hG ?_
  refine ⟨hi, rfl, rfl, rfl, ?_⟩
  rw [setL_ss, setL_s, q_start]
set_option maxRecDepth 100000 in
set_option maxHeartbeats 4000000 in
theorem b_X5_step_0 {z : amZ} {post : amP} {G : amG} {I : amI} {L : amL} (hz : Go z cX5_step RX5 7 none 1 0 0 post) (hG : Lay G) {p1 : Nat} (hn_p1 : p1 < gN G) (hk_p1 : gK G p1 = 50) (hl_p1 : gL G p1 = 16) {v2 : Int32} (h : Wx z 0 0 2 [(0, .ref ((zB z).size + 43)), (1, .ref ((zB z).size + p1)), (2, .int v2), (3, .int 0)] [] G I L) : Wx z 0 0 0 [(0, .ref ((zB z).size + 43)), (1, .ref ((zB z).size + p1)), (2, .int v2)] [] G I L := by
  have hz1 := hz.1
  refine am_iconst (v := 0) hz1 dX5_step_0 (by decide) ?_
  refine am_istore_n (lv' := [(3, .int 0), (0, .ref ((zB z).size + 43)), (1, .ref ((zB z).size + p1)), (2, .int v2)]) hz1 dX5_step_1 rfl rfl rfl ?_
  exact am_sub (lv' := [(0, .ref ((zB z).size + 43)), (1, .ref ((zB z).size + p1)), (2, .int v2), (3, .int 0)]) [1, 2, 3, 0] rfl h
set_option maxRecDepth 100000 in
set_option maxHeartbeats 4000000 in
theorem b_X5_step_2 {z : amZ} {post : amP} {G : amG} {I : amI} {L : amL} (hz : Go z cX5_step RX5 7 none 1 0 0 post) (hG : Lay G) {p1 : Nat} (hn_p1 : p1 < gN G) (hk_p1 : gK G p1 = 50) (hl_p1 : gL G p1 = 16) {v2 : Int32} {v3 : Int32} (h : (((I 3 0) ≤ v3) → post none G I (setL L 44 (va_cpy (L 45) (L 44) (0 : Int32).toNatClampNeg (0 : Int32).toNatClampNeg (16 : Int32).toNatClampNeg))) ∧ ((¬ (I 3 0) ≤ v3) → ((v2 = 0) → Wx z 0 0 32 [(0, .ref ((zB z).size + 43)), (1, .ref ((zB z).size + p1)), (2, .int v2), (3, .int v3), (4, .long (0 : Int64)), (6, .int 0)] [] G I L) ∧ ((¬ v2 = 0) → vp_in v3 16 ∧ Wx z 0 0 32 [(0, .ref ((zB z).size + 43)), (1, .ref ((zB z).size + p1)), (2, .int v2), (3, .int v3), (4, .long (L 44 v3.toNatClampNeg)), (6, .int 0)] [] G I L))) : Wx z 0 0 2 [(0, .ref ((zB z).size + 43)), (1, .ref ((zB z).size + p1)), (2, .int v2), (3, .int v3)] [] G I L := by
  have hz1 := hz.1
  refine am_iload_n hz1 dX5_step_2 3 rfl rfl ?_
  refine am_aload_n hz1 dX5_step_3 0 rfl rfl ?_
  refine am_getR hz1 fl_X5_18 (ln_43 hG) (lk_43 hG) (lr_43_0 hG) rfl dX5_step_4 ?_
  refine am_getI hz1 fl_X5_28 (ln_3 hG) (lk_3 hG) rfl dX5_step_7 ?_
  refine am_icmp_ge (tgt := 88) hz1 dX5_step_10 (by decide) (fun c1 => ?_) (fun c1 => ?_)
  · replace h := h.1 c1
    refine am_aload_n hz1 dX5_step_88 0 rfl rfl ?_
    refine am_getR hz1 fl_X5_15 (ln_43 hG) (lk_43 hG) (lr_43_2 hG) rfl dX5_step_89 ?_
    refine am_iconst (v := 0) hz1 dX5_step_92 (by decide) ?_
    refine am_aload_n hz1 dX5_step_93 0 rfl rfl ?_
    refine am_getR hz1 fl_X5_9 (ln_43 hG) (lk_43 hG) (lr_43_1 hG) rfl dX5_step_94 ?_
    refine am_iconst (v := 0) hz1 dX5_step_97 (by decide) ?_
    refine am_bipush (v := 16) hz1 dX5_step_98 (by decide) ?_
    refine am_copyL hz ml_X5_34 (ln_45 hG) (lk_45 hG) (ln_44 hG) (lk_44 hG) (by decide) (by decide) (by decide) (by rw [(ll_45 hG)]; decide) (by rw [(ll_44 hG)]; decide) rfl (Nat.le_of_ble_eq_true rfl) dX5_step_100 ?_
    exact am_return hz dX5_step_103 h
  · replace h := h.2 c1
    refine am_iload_n hz1 dX5_step_13 2 rfl rfl ?_
    refine am_if_eq (tgt := 26) hz1 dX5_step_14 (by decide) (fun c3 => ?_) (fun c3 => ?_)
    · replace h := h.1 c3
      refine am_lconst (v := 0) hz1 dX5_step_26 (by decide) ?_
      refine am_lstore (lv' := [(4, .long (0 : Int64)), (0, .ref ((zB z).size + 43)), (1, .ref ((zB z).size + p1)), (2, .int v2), (3, .int v3)]) hz1 dX5_step_27 rfl rfl ?_
      refine am_iconst (v := 0) hz1 dX5_step_29 (by decide) ?_
      refine am_istore (lv' := [(6, .int 0), (4, .long (0 : Int64)), (0, .ref ((zB z).size + 43)), (1, .ref ((zB z).size + p1)), (2, .int v2), (3, .int v3)]) hz1 dX5_step_30 rfl rfl ?_
      exact am_sub (lv' := [(0, .ref ((zB z).size + 43)), (1, .ref ((zB z).size + p1)), (2, .int v2), (3, .int v3), (4, .long (0 : Int64)), (6, .int 0)]) [2, 3, 4, 5, 1, 0] rfl h
    · replace h := h.2 c3
      refine am_aload_n hz1 dX5_step_17 0 rfl rfl ?_
      refine am_getR hz1 fl_X5_9 (ln_43 hG) (lk_43 hG) (lr_43_1 hG) rfl dX5_step_18 ?_
      refine am_iload_n hz1 dX5_step_21 3 rfl rfl ?_
      obtain ⟨g4, h⟩ := h
      refine am_lald hz1 (ln_44 hG) (lk_44 hG) (by rw [(ll_44 hG)]; exact g4) dX5_step_22 ?_
      refine am_goto (tgt := 27) hz1 dX5_step_23 (by decide) ?_
      refine am_lstore (lv' := [(4, .long (L 44 v3.toNatClampNeg)), (0, .ref ((zB z).size + 43)), (1, .ref ((zB z).size + p1)), (2, .int v2), (3, .int v3)]) hz1 dX5_step_27 rfl rfl ?_
      refine am_iconst (v := 0) hz1 dX5_step_29 (by decide) ?_
      refine am_istore (lv' := [(6, .int 0), (4, .long (L 44 v3.toNatClampNeg)), (0, .ref ((zB z).size + 43)), (1, .ref ((zB z).size + p1)), (2, .int v2), (3, .int v3)]) hz1 dX5_step_30 rfl rfl ?_
      exact am_sub (lv' := [(0, .ref ((zB z).size + 43)), (1, .ref ((zB z).size + p1)), (2, .int v2), (3, .int v3), (4, .long (L 44 v3.toNatClampNeg)), (6, .int 0)]) [2, 3, 4, 5, 1, 0] rfl h
set_option maxRecDepth 100000 in
set_option maxHeartbeats 4000000 in
theorem b_X5_step_32 {z : amZ} {post : amP} {G : amG} {I : amI} {L : amL} (hz : Go z cX5_step RX5 7 none 1 0 0 post) (hG : Lay G) {p1 : Nat} (hn_p1 : p1 < gN G) (hk_p1 : gK G p1 = 50) (hl_p1 : gL G p1 = 16) {v2 : Int32} {v3 : Int32} {v4 : Int64} {v6 : Int32} (h : (((I 3 0) ≤ v6) → vp_in v3 16 ∧ Wx z 0 0 2 [(0, .ref ((zB z).size + 43)), (1, .ref ((zB z).size + p1)), (2, .int v2), (3, .int (v3 + 1))] [] G I (setL L 45 (vp_updL (L 45) v3.toNatClampNeg v4))) ∧ ((¬ (I 3 0) ≤ v6) → vp_in v3 16 ∧ ((¬ (((I p1 v3.toNatClampNeg) >>> (v6 &&& 31)) &&& (1 : Int32)) = (1 : Int32)) → Wx z 0 0 32 [(0, .ref ((zB z).size + 43)), (1, .ref ((zB z).size + p1)), (2, .int v2), (3, .int v3), (4, .long v4), (6, .int (v6 + 1))] [] G I L) ∧ (((((I p1 v3.toNatClampNeg) >>> (v6 &&& 31)) &&& (1 : Int32)) = (1 : Int32)) → vp_in v6 16 ∧ Wx z 0 0 32 [(0, .ref ((zB z).size + 43)), (1, .ref ((zB z).size + p1)), (2, .int v2), (3, .int v3), (4, .long (v4 + (L 44 v6.toNatClampNeg))), (6, .int (v6 + 1))] [] G I L))) : Wx z 0 0 32 [(0, .ref ((zB z).size + 43)), (1, .ref ((zB z).size + p1)), (2, .int v2), (3, .int v3), (4, .long v4), (6, .int v6)] [] G I L := by
  have hz1 := hz.1
  refine am_iload hz1 dX5_step_32 5 rfl ?_
  refine am_aload_n hz1 dX5_step_34 0 rfl rfl ?_
  refine am_getR hz1 fl_X5_18 (ln_43 hG) (lk_43 hG) (lr_43_0 hG) rfl dX5_step_35 ?_
  refine am_getI hz1 fl_X5_28 (ln_3 hG) (lk_3 hG) rfl dX5_step_38 ?_
  refine am_icmp_ge (tgt := 74) hz1 dX5_step_41 (by decide) (fun c1 => ?_) (fun c1 => ?_)
  · replace h := h.1 c1
    refine am_aload_n hz1 dX5_step_74 0 rfl rfl ?_
    refine am_getR hz1 fl_X5_15 (ln_43 hG) (lk_43 hG) (lr_43_2 hG) rfl dX5_step_75 ?_
    refine am_iload_n hz1 dX5_step_78 3 rfl rfl ?_
    refine am_lload hz1 dX5_step_79 4 rfl ?_
    obtain ⟨g2, h⟩ := h
    refine am_last hz1 (ln_45 hG) (lk_45 hG) (by rw [(ll_45 hG)]; exact g2) dX5_step_81 ?_
    refine am_iinc (v := v3 + 1) (lv' := [(3, .int (v3 + 1)), (0, .ref ((zB z).size + 43)), (1, .ref ((zB z).size + p1)), (2, .int v2), (4, .long v4), (6, .int v6)]) hz1 dX5_step_82 3 rfl rfl rfl rfl ?_
    refine am_goto (tgt := 2) hz1 dX5_step_85 (by decide) ?_
    exact am_sub (lv' := [(0, .ref ((zB z).size + 43)), (1, .ref ((zB z).size + p1)), (2, .int v2), (3, .int (v3 + 1))]) [1, 2, 3, 0] rfl h
  · replace h := h.2 c1
    refine am_aload_n hz1 dX5_step_44 1 rfl rfl ?_
    refine am_iload_n hz1 dX5_step_45 3 rfl rfl ?_
    obtain ⟨g3, h⟩ := h
    refine am_iald hz1 hn_p1 hk_p1 (by rw [hl_p1]; exact g3) dX5_step_46 ?_
    refine am_iload hz1 dX5_step_47 5 rfl ?_
    refine am_ishr hz1 dX5_step_49 ?_
    refine am_iconst (v := 1) hz1 dX5_step_50 (by decide) ?_
    refine am_iand hz1 dX5_step_51 ?_
    refine am_iconst (v := 1) hz1 dX5_step_52 (by decide) ?_
    refine am_icmp_ne (tgt := 68) hz1 dX5_step_53 (by decide) (fun c4 => ?_) (fun c4 => ?_)
    · replace h := h.1 c4
      refine am_iinc (v := v6 + 1) (lv' := [(6, .int (v6 + 1)), (0, .ref ((zB z).size + 43)), (1, .ref ((zB z).size + p1)), (2, .int v2), (3, .int v3), (4, .long v4)]) hz1 dX5_step_68 5 rfl rfl rfl rfl ?_
      refine am_goto (tgt := 32) hz1 dX5_step_71 (by decide) ?_
      exact am_sub (lv' := [(0, .ref ((zB z).size + 43)), (1, .ref ((zB z).size + p1)), (2, .int v2), (3, .int v3), (4, .long v4), (6, .int (v6 + 1))]) [1, 2, 3, 4, 5, 0] rfl h
    · replace h := h.2 c4
      refine am_lload hz1 dX5_step_56 4 rfl ?_
      refine am_aload_n hz1 dX5_step_58 0 rfl rfl ?_
      refine am_getR hz1 fl_X5_9 (ln_43 hG) (lk_43 hG) (lr_43_1 hG) rfl dX5_step_59 ?_
      refine am_iload hz1 dX5_step_62 5 rfl ?_
      obtain ⟨g5, h⟩ := h
      refine am_lald hz1 (ln_44 hG) (lk_44 hG) (by rw [(ll_44 hG)]; exact g5) dX5_step_64 ?_
      refine am_ladd hz1 dX5_step_65 ?_
      refine am_lstore (lv' := [(4, .long (v4 + (L 44 v6.toNatClampNeg))), (0, .ref ((zB z).size + 43)), (1, .ref ((zB z).size + p1)), (2, .int v2), (3, .int v3), (6, .int v6)]) hz1 dX5_step_66 rfl rfl ?_
      refine am_iinc (v := v6 + 1) (lv' := [(6, .int (v6 + 1)), (4, .long (v4 + (L 44 v6.toNatClampNeg))), (0, .ref ((zB z).size + 43)), (1, .ref ((zB z).size + p1)), (2, .int v2), (3, .int v3)]) hz1 dX5_step_68 5 rfl rfl rfl rfl ?_
      refine am_goto (tgt := 32) hz1 dX5_step_71 (by decide) ?_
      exact am_sub (lv' := [(0, .ref ((zB z).size + 43)), (1, .ref ((zB z).size + p1)), (2, .int v2), (3, .int v3), (4, .long (v4 + (L 44 v6.toNatClampNeg))), (6, .int (v6 + 1))]) [2, 3, 4, 5, 1, 0] rfl h
set_option maxRecDepth 100000 in
set_option maxHeartbeats 4000000 in
theorem c_X5_step {l : Launch} {D : va_G} {B : Heap} {G : amG} {I : amI} {L : amL} {p1 : Nat} (hG : Lay G) (hn_p1 : p1 < gN G) (hk_p1 : gK G p1 = 50) (hl_p1 : gL G p1 = 16) (v2 : Int32) (hs : szOk I 3) : Fx l D B yX5_step cX5_step 7 none 1 [.ref (B.size + 43), .ref (B.size + p1), .int v2] G I L none I (q_step L (I p1) v2 (sz I 3)) := by
  refine Mx.of (by decide) rfl rfl (fun z e1 e2 e3 hz => ?_)
  subst e1; subst e2; subst e3
  refine b_X5_step_0 hz hG hn_p1 hk_p1 hl_p1 ?_
  obtain ⟨n, hn1, h16, hn⟩ := id hs
  have main : Wx z 0 0 2 [(0, .ref ((zB z).size + 43)), (1, .ref ((zB z).size + p1)), (2, .int v2), (3, .int (nI 0))] [] G I (setL L 45 (stN L (I p1) v2 n 0)) := by
    refine for_up (P := fun k => Wx z 0 0 2 [(0, .ref ((zB z).size + 43)), (1, .ref ((zB z).size + p1)), (2, .int v2), (3, .int (nI k))] [] G I (setL L 45 (stN L (I p1) v2 n k))) (n := n) ?_ ?_ (Nat.zero_le n)
    · refine b_X5_step_2 hz hG hn_p1 hk_p1 hl_p1 ⟨fun _ => ⟨rfl, rfl, rfl, ?_⟩, fun h => absurd (sz_le hn h16) h⟩
      rw [setL_s, setL_n (by decide), q_step, sz_eq hn h16]
      rfl
    · intro k hk ih
      have inner : ∀ b : Int64, b = (if v2 = 0 then 0 else L 44 k) → Wx z 0 0 32 [(0, .ref ((zB z).size + 43)), (1, .ref ((zB z).size + p1)), (2, .int v2), (3, .int (nI k)), (4, .long (stS (L 44) (I p1 k) b 0)), (6, .int (nI 0))] [] G I (setL L 45 (stN L (I p1) v2 n k)) := by
        intro b hb
        refine for_up (P := fun y => Wx z 0 0 32 [(0, .ref ((zB z).size + 43)), (1, .ref ((zB z).size + p1)), (2, .int v2), (3, .int (nI k)), (4, .long (stS (L 44) (I p1 k) b y)), (6, .int (nI y))] [] G I (setL L 45 (stN L (I p1) v2 n k))) (n := n) ?_ ?_ (Nat.zero_le n)
        · refine b_X5_step_32 hz hG hn_p1 hk_p1 hl_p1 ⟨fun _ => ⟨in16 h16 hk, ?_⟩, fun h => absurd (sz_le hn h16) h⟩
          rw [nI_1, setL_ss, setL_s, cl_nI (by omega)]
          have e : vp_updL (stN L (I p1) v2 n k) k (stS (L 44) (I p1 k) b n) = stN L (I p1) v2 n (k + 1) := by
            funext j
            by_cases ej : j = k
            · subst ej; rw [pk_uLs, stN, if_pos (by omega), stV, hb]
            · rw [pk_uLn ej, stN, stN]
              have : (j < k + 1) = (j < k) := by apply propext; omega
              simp [this]
          rw [e]
          exact ih
        · intro y hy yh
          refine b_X5_step_32 hz hG hn_p1 hk_p1 hl_p1 ⟨fun h => absurd h (sz_ge hn h16 hy), fun _ => ⟨in16 h16 hk, fun h => ?_, fun h => ⟨in16 h16 hy, ?_⟩⟩⟩
          · rw [cl_nI (by omega)] at h
            rw [stS, if_neg (by rw [(b_bit0 _ y (by omega)).mp h]; decide)] at yh
            rw [nI_1]
            exact yh
          · rw [cl_nI (by omega)] at h
            rw [stS, if_pos ((b_bit _ y (by omega)).mp h)] at yh
            rw [nI_1, cl_nI (by omega), setL_n (by decide)]
            exact yh
      refine b_X5_step_2 hz hG hn_p1 hk_p1 hl_p1 ⟨fun h => absurd h (sz_ge hn h16 hk), fun _ => ⟨fun h => inner 0 (by rw [if_pos h]), fun h => ⟨in16 h16 hk, ?_⟩⟩⟩
      rw [cl_nI (by omega), setL_n (by decide)]
      exact inner (L 44 k) (by rw [if_neg h])
  have e : setL L 45 (stN L (I p1) v2 n 0) = L := by
    rw [show stN L (I p1) v2 n 0 = L 45 by funext j; simp [stN], setL_id]
  rw [e] at main
  exact main
set_option maxRecDepth 100000 in
set_option maxHeartbeats 4000000 in
theorem b_X5_chainsOf_0 {z : amZ} {post : amP} {G : amG} {I : amI} {L : amL} (hz : Go z cX5_chainsOf RX5 5 (some .long) 2 0 0 post) (hG : Lay G) {v1 : Int32} {v2 : Int32} {v3 : Int32} (h : (vp_in v1 16) ∧ Wx z 0 0 8 [(0, .ref ((zB z).size + 43)), (2, .int v2), (3, .int v3), (4, .int 0)] [] G I (q_start L v1)) : Wx z 0 0 0 [(0, .ref ((zB z).size + 43)), (1, .int v1), (2, .int v2), (3, .int v3)] [] G I L := by
  have hz1 := hz.1
  refine am_aload_n hz1 dX5_chainsOf_0 0 rfl rfl ?_
  refine am_iload_n hz1 dX5_chainsOf_1 1 rfl rfl ?_
  obtain ⟨g1, h⟩ := h
  refine am_cVf hz cv_X5_40 [.int v1] [] (c_X5_start hG v1 g1) (ln_43 hG) (lk_43 hG) rfl rfl rfl ⟨Nat.le_refl _, Nat.le_refl _⟩ (Nat.le_of_ble_eq_true rfl) dX5_chainsOf_2 ?_
  refine am_iconst (v := 0) hz1 dX5_chainsOf_5 (by decide) ?_
  refine am_istore (lv' := [(4, .int 0), (0, .ref ((zB z).size + 43)), (1, .int v1), (2, .int v2), (3, .int v3)]) hz1 dX5_chainsOf_6 rfl rfl ?_
  exact am_sub (lv' := [(0, .ref ((zB z).size + 43)), (2, .int v2), (3, .int v3), (4, .int 0)]) [1, 3, 4, 0] rfl h
set_option maxRecDepth 100000 in
set_option maxHeartbeats 4000000 in
theorem b_X5_chainsOf_8 {z : amZ} {post : amP} {G : amG} {I : amI} {L : amL} (hz : Go z cX5_chainsOf RX5 5 (some .long) 2 0 0 post) (hG : Lay G) {v2 : Int32} {v3 : Int32} {v4 : Int32} (h : ((v3 ≤ v4) → vp_in v2 16 ∧ post (some (.long (L 44 v2.toNatClampNeg))) G I L) ∧ ((¬ v3 ≤ v4) → (szOk I 3) ∧ Wx z 0 0 8 [(0, .ref ((zB z).size + 43)), (2, .int v2), (3, .int v3), (4, .int (v4 + 1))] [] G I (q_step L (I 5) (0 : Int32) (sz I 3)))) : Wx z 0 0 8 [(0, .ref ((zB z).size + 43)), (2, .int v2), (3, .int v3), (4, .int v4)] [] G I L := by
  have hz1 := hz.1
  refine am_iload hz1 dX5_chainsOf_8 3 rfl ?_
  refine am_iload_n hz1 dX5_chainsOf_10 2 rfl rfl ?_
  refine am_icmp_ge (tgt := 32) hz1 dX5_chainsOf_11 (by decide) (fun c1 => ?_) (fun c1 => ?_)
  · replace h := h.1 c1
    refine am_aload_n hz1 dX5_chainsOf_32 0 rfl rfl ?_
    refine am_getR hz1 fl_X5_9 (ln_43 hG) (lk_43 hG) (lr_43_1 hG) rfl dX5_chainsOf_33 ?_
    refine am_iload_n hz1 dX5_chainsOf_36 1 rfl rfl ?_
    obtain ⟨g2, h⟩ := h
    refine am_lald hz1 (ln_44 hG) (lk_44 hG) (by rw [(ll_44 hG)]; exact g2) dX5_chainsOf_37 ?_
    exact am_lreturn hz dX5_chainsOf_38 h
  · replace h := h.2 c1
    refine am_aload_n hz1 dX5_chainsOf_14 0 rfl rfl ?_
    refine am_aload_n hz1 dX5_chainsOf_15 0 rfl rfl ?_
    refine am_getR hz1 fl_X5_18 (ln_43 hG) (lk_43 hG) (lr_43_0 hG) rfl dX5_chainsOf_16 ?_
    refine am_getR hz1 fl_X5_44 (ln_3 hG) (lk_3 hG) (lr_3_2 hG) rfl dX5_chainsOf_19 ?_
    refine am_iconst (v := 0) hz1 dX5_chainsOf_22 (by decide) ?_
    obtain ⟨g3, h⟩ := h
    refine am_cVf hz cv_X5_48 [.ref ((zB z).size + 5), .int 0] [] (c_X5_step hG (ln_5 hG) (lk_5 hG) (ll_5 hG) (0 : Int32) g3) (ln_43 hG) (lk_43 hG) rfl rfl rfl ⟨Nat.le_refl _, Nat.le_refl _⟩ (Nat.le_of_ble_eq_true rfl) dX5_chainsOf_23 ?_
    refine am_iinc (v := v4 + 1) (lv' := [(4, .int (v4 + 1)), (0, .ref ((zB z).size + 43)), (2, .int v2), (3, .int v3)]) hz1 dX5_chainsOf_26 3 rfl rfl rfl rfl ?_
    refine am_goto (tgt := 8) hz1 dX5_chainsOf_29 (by decide) ?_
    exact am_sub (lv' := [(0, .ref ((zB z).size + 43)), (2, .int v2), (3, .int v3), (4, .int (v4 + 1))]) [1, 2, 3, 0] rfl h
set_option maxRecDepth 100000 in
set_option maxHeartbeats 4000000 in
theorem c_X5_chainsOf {l : Launch} {D : va_G} {B : Heap} {G : amG} {I : amI} {L : amL}  (hG : Lay G)  (v1 : Int32) (v2 : Int32) (v3 : Int32) (hs : szOk I 3) (h1 : vp_in v1 16) (h2 : vp_in v2 16) (h3 : vp_in v3 16) : Fx l D B yX5_chainsOf cX5_chainsOf 5 (some .long) 2 [.ref (B.size + 43), .int v1, .int v2, .int v3] G I L (some (.long (q_ch I L 5 0 v1 v3.toNatClampNeg 44 v2.toNatClampNeg))) I (q_ch I L 5 0 v1 v3.toNatClampNeg) := by
  refine Mx.of (by decide) rfl rfl (fun z e1 e2 e3 hz => ?_)
  subst e1; subst e2; subst e3
  refine b_X5_chainsOf_0 hz hG ?_
  obtain ⟨m, hm, rfl⟩ := vp_in_of h3 (by decide)
  rw [cl_nI (n := m) (by omega)] at hz
  refine ⟨h1, ?_⟩
  refine for_up (P := fun k => Wx z 0 0 8 [(0, .ref ((zB z).size + 43)), (2, .int v2), (3, .int (nI m)), (4, .int (nI k))] [] G I (q_ch I L 5 0 v1 k)) (n := m) ?_ ?_ (Nat.zero_le m)
  · exact b_X5_chainsOf_8 hz hG ⟨fun _ => ⟨h2, rfl, rfl, rfl, rfl⟩, fun h => absurd (nI_le (Nat.le_refl _) (by omega)) h⟩
  · intro k hk ih
    refine b_X5_chainsOf_8 hz hG ⟨fun h => absurd h (nI_ge hk (by omega)), fun _ => ⟨hs, ?_⟩⟩
    rw [nI_1]
    exact ih
set_option maxRecDepth 100000 in
set_option maxHeartbeats 4000000 in
theorem b_X5_multichainsOf_0 {z : amZ} {post : amP} {G : amG} {I : amI} {L : amL} (hz : Go z cX5_multichainsOf RX5 5 (some .long) 2 0 0 post) (hG : Lay G) {v1 : Int32} {v2 : Int32} {v3 : Int32} (h : (vp_in v1 16) ∧ Wx z 0 0 8 [(0, .ref ((zB z).size + 43)), (2, .int v2), (3, .int v3), (4, .int 0)] [] G I (q_start L v1)) : Wx z 0 0 0 [(0, .ref ((zB z).size + 43)), (1, .int v1), (2, .int v2), (3, .int v3)] [] G I L := by
  have hz1 := hz.1
  refine am_aload_n hz1 dX5_multichainsOf_0 0 rfl rfl ?_
  refine am_iload_n hz1 dX5_multichainsOf_1 1 rfl rfl ?_
  obtain ⟨g1, h⟩ := h
  refine am_cVf hz cv_X5_40 [.int v1] [] (c_X5_start hG v1 g1) (ln_43 hG) (lk_43 hG) rfl rfl rfl ⟨Nat.le_refl _, Nat.le_refl _⟩ (Nat.le_of_ble_eq_true rfl) dX5_multichainsOf_2 ?_
  refine am_iconst (v := 0) hz1 dX5_multichainsOf_5 (by decide) ?_
  refine am_istore (lv' := [(4, .int 0), (0, .ref ((zB z).size + 43)), (1, .int v1), (2, .int v2), (3, .int v3)]) hz1 dX5_multichainsOf_6 rfl rfl ?_
  exact am_sub (lv' := [(0, .ref ((zB z).size + 43)), (2, .int v2), (3, .int v3), (4, .int 0)]) [1, 3, 4, 0] rfl h
set_option maxRecDepth 100000 in
set_option maxHeartbeats 4000000 in
theorem b_X5_multichainsOf_8 {z : amZ} {post : amP} {G : amG} {I : amI} {L : amL} (hz : Go z cX5_multichainsOf RX5 5 (some .long) 2 0 0 post) (hG : Lay G) {v2 : Int32} {v3 : Int32} {v4 : Int32} (h : ((v3 ≤ v4) → vp_in v2 16 ∧ post (some (.long (L 44 v2.toNatClampNeg))) G I L) ∧ ((¬ v3 ≤ v4) → (szOk I 3) ∧ Wx z 0 0 8 [(0, .ref ((zB z).size + 43)), (2, .int v2), (3, .int v3), (4, .int (v4 + 1))] [] G I (q_step L (I 5) (1 : Int32) (sz I 3)))) : Wx z 0 0 8 [(0, .ref ((zB z).size + 43)), (2, .int v2), (3, .int v3), (4, .int v4)] [] G I L := by
  have hz1 := hz.1
  refine am_iload hz1 dX5_multichainsOf_8 3 rfl ?_
  refine am_iload_n hz1 dX5_multichainsOf_10 2 rfl rfl ?_
  refine am_icmp_ge (tgt := 32) hz1 dX5_multichainsOf_11 (by decide) (fun c1 => ?_) (fun c1 => ?_)
  · replace h := h.1 c1
    refine am_aload_n hz1 dX5_multichainsOf_32 0 rfl rfl ?_
    refine am_getR hz1 fl_X5_9 (ln_43 hG) (lk_43 hG) (lr_43_1 hG) rfl dX5_multichainsOf_33 ?_
    refine am_iload_n hz1 dX5_multichainsOf_36 1 rfl rfl ?_
    obtain ⟨g2, h⟩ := h
    refine am_lald hz1 (ln_44 hG) (lk_44 hG) (by rw [(ll_44 hG)]; exact g2) dX5_multichainsOf_37 ?_
    exact am_lreturn hz dX5_multichainsOf_38 h
  · replace h := h.2 c1
    refine am_aload_n hz1 dX5_multichainsOf_14 0 rfl rfl ?_
    refine am_aload_n hz1 dX5_multichainsOf_15 0 rfl rfl ?_
    refine am_getR hz1 fl_X5_18 (ln_43 hG) (lk_43 hG) (lr_43_0 hG) rfl dX5_multichainsOf_16 ?_
    refine am_getR hz1 fl_X5_44 (ln_3 hG) (lk_3 hG) (lr_3_2 hG) rfl dX5_multichainsOf_19 ?_
    refine am_iconst (v := 1) hz1 dX5_multichainsOf_22 (by decide) ?_
    obtain ⟨g3, h⟩ := h
    refine am_cVf hz cv_X5_48 [.ref ((zB z).size + 5), .int 1] [] (c_X5_step hG (ln_5 hG) (lk_5 hG) (ll_5 hG) (1 : Int32) g3) (ln_43 hG) (lk_43 hG) rfl rfl rfl ⟨Nat.le_refl _, Nat.le_refl _⟩ (Nat.le_of_ble_eq_true rfl) dX5_multichainsOf_23 ?_
    refine am_iinc (v := v4 + 1) (lv' := [(4, .int (v4 + 1)), (0, .ref ((zB z).size + 43)), (2, .int v2), (3, .int v3)]) hz1 dX5_multichainsOf_26 3 rfl rfl rfl rfl ?_
    refine am_goto (tgt := 8) hz1 dX5_multichainsOf_29 (by decide) ?_
    exact am_sub (lv' := [(0, .ref ((zB z).size + 43)), (2, .int v2), (3, .int v3), (4, .int (v4 + 1))]) [1, 2, 3, 0] rfl h
set_option maxRecDepth 100000 in
set_option maxHeartbeats 4000000 in
theorem c_X5_multichainsOf {l : Launch} {D : va_G} {B : Heap} {G : amG} {I : amI} {L : amL}  (hG : Lay G)  (v1 : Int32) (v2 : Int32) (v3 : Int32) (hs : szOk I 3) (h1 : vp_in v1 16) (h2 : vp_in v2 16) (h3 : vp_in v3 32) : Fx l D B yX5_multichainsOf cX5_multichainsOf 5 (some .long) 2 [.ref (B.size + 43), .int v1, .int v2, .int v3] G I L (some (.long (q_ch I L 5 1 v1 v3.toNatClampNeg 44 v2.toNatClampNeg))) I (q_ch I L 5 1 v1 v3.toNatClampNeg) := by
  refine Mx.of (by decide) rfl rfl (fun z e1 e2 e3 hz => ?_)
  subst e1; subst e2; subst e3
  refine b_X5_multichainsOf_0 hz hG ?_
  obtain ⟨m, hm, rfl⟩ := vp_in_of h3 (by decide)
  rw [cl_nI (n := m) (by omega)] at hz
  refine ⟨h1, ?_⟩
  refine for_up (P := fun k => Wx z 0 0 8 [(0, .ref ((zB z).size + 43)), (2, .int v2), (3, .int (nI m)), (4, .int (nI k))] [] G I (q_ch I L 5 1 v1 k)) (n := m) ?_ ?_ (Nat.zero_le m)
  · exact b_X5_multichainsOf_8 hz hG ⟨fun _ => ⟨h2, rfl, rfl, rfl, rfl⟩, fun h => absurd (nI_le (Nat.le_refl _) (by omega)) h⟩
  · intro k hk ih
    refine b_X5_multichainsOf_8 hz hG ⟨fun h => absurd h (nI_ge hk (by omega)), fun _ => ⟨hs, ?_⟩⟩
    rw [nI_1]
    exact ih
set_option maxRecDepth 100000 in
set_option maxHeartbeats 4000000 in
theorem b_X5_chainsOfAll_0 {z : amZ} {post : amP} {G : amG} {I : amI} {L : amL} (hz : Go z cX5_chainsOfAll RX5 10 (some .long) 2 0 0 post) (hG : Lay G) {p3 : Nat} (hn_p3 : p3 < gN G) (hk_p3 : gK G p3 = 50) (hl_p3 : gL G p3 = 16) {v1 : Int32} {v2 : Int32} {v4 : Int32} (h : (vp_in v1 16) ∧ vp_in v2 16 ∧ Wx z 0 0 19 [(0, .ref ((zB z).size + 43)), (2, .int v2), (3, .ref ((zB z).size + p3)), (4, .int v4), (5, .long ((q_start L v1) 44 v2.toNatClampNeg)), (7, .long (1 : Int64)), (9, .int 1)] [] G I (q_start L v1)) : Wx z 0 0 0 [(0, .ref ((zB z).size + 43)), (1, .int v1), (2, .int v2), (3, .ref ((zB z).size + p3)), (4, .int v4)] [] G I L := by
  have hz1 := hz.1
  refine am_aload_n hz1 dX5_chainsOfAll_0 0 rfl rfl ?_
  refine am_iload_n hz1 dX5_chainsOfAll_1 1 rfl rfl ?_
  obtain ⟨g1, h⟩ := h
  refine am_cVf hz cv_X5_40 [.int v1] [] (c_X5_start hG v1 g1) (ln_43 hG) (lk_43 hG) rfl rfl rfl ⟨Nat.le_refl _, Nat.le_refl _⟩ (Nat.le_of_ble_eq_true rfl) dX5_chainsOfAll_2 ?_
  refine am_aload_n hz1 dX5_chainsOfAll_5 0 rfl rfl ?_
  refine am_getR hz1 fl_X5_9 (ln_43 hG) (lk_43 hG) (lr_43_1 hG) rfl dX5_chainsOfAll_6 ?_
  refine am_iload_n hz1 dX5_chainsOfAll_9 2 rfl rfl ?_
  obtain ⟨g2, h⟩ := h
  refine am_lald hz1 (ln_44 hG) (lk_44 hG) (by rw [(ll_44 hG)]; exact g2) dX5_chainsOfAll_10 ?_
  refine am_lstore (lv' := [(5, .long ((q_start L v1) 44 v2.toNatClampNeg)), (0, .ref ((zB z).size + 43)), (1, .int v1), (2, .int v2), (3, .ref ((zB z).size + p3)), (4, .int v4)]) hz1 dX5_chainsOfAll_11 rfl rfl ?_
  refine am_lconst (v := 1) hz1 dX5_chainsOfAll_13 (by decide) ?_
  refine am_lstore (lv' := [(7, .long (1 : Int64)), (5, .long ((q_start L v1) 44 v2.toNatClampNeg)), (0, .ref ((zB z).size + 43)), (1, .int v1), (2, .int v2), (3, .ref ((zB z).size + p3)), (4, .int v4)]) hz1 dX5_chainsOfAll_14 rfl rfl ?_
  refine am_iconst (v := 1) hz1 dX5_chainsOfAll_16 (by decide) ?_
  refine am_istore (lv' := [(9, .int 1), (7, .long (1 : Int64)), (5, .long ((q_start L v1) 44 v2.toNatClampNeg)), (0, .ref ((zB z).size + 43)), (1, .int v1), (2, .int v2), (3, .ref ((zB z).size + p3)), (4, .int v4)]) hz1 dX5_chainsOfAll_17 rfl rfl ?_
  exact am_sub (lv' := [(0, .ref ((zB z).size + 43)), (2, .int v2), (3, .ref ((zB z).size + p3)), (4, .int v4), (5, .long ((q_start L v1) 44 v2.toNatClampNeg)), (7, .long (1 : Int64)), (9, .int 1)]) [3, 5, 6, 7, 2, 1, 0] rfl h
set_option maxRecDepth 100000 in
set_option maxHeartbeats 4000000 in
theorem b_X5_chainsOfAll_19 {z : amZ} {post : amP} {G : amG} {I : amI} {L : amL} (hz : Go z cX5_chainsOfAll RX5 10 (some .long) 2 0 0 post) (hG : Lay G) {p3 : Nat} (hn_p3 : p3 < gN G) (hk_p3 : gK G p3 = 50) (hl_p3 : gL G p3 = 16) {v2 : Int32} {v4 : Int32} {v5 : Int64} {v7 : Int64} {v9 : Int32} (h : (((I 3 0) ≤ v9) → post (some (.long v5)) G I L) ∧ ((¬ (I 3 0) ≤ v9) → (szOk I 3) ∧ vp_in v2 16 ∧ Wx z 0 0 19 [(0, .ref ((zB z).size + 43)), (2, .int v2), (3, .ref ((zB z).size + p3)), (4, .int v4), (5, .long (v5 + ((v7 * v4.toInt64) * ((q_step L (I p3) (0 : Int32) (sz I 3)) 44 v2.toNatClampNeg)))), (7, .long (v7 * v4.toInt64)), (9, .int (v9 + 1))] [] G I (q_step L (I p3) (0 : Int32) (sz I 3)))) : Wx z 0 0 19 [(0, .ref ((zB z).size + 43)), (2, .int v2), (3, .ref ((zB z).size + p3)), (4, .int v4), (5, .long v5), (7, .long v7), (9, .int v9)] [] G I L := by
  have hz1 := hz.1
  refine am_iload hz1 dX5_chainsOfAll_19 6 rfl ?_
  refine am_aload_n hz1 dX5_chainsOfAll_21 0 rfl rfl ?_
  refine am_getR hz1 fl_X5_18 (ln_43 hG) (lk_43 hG) (lr_43_0 hG) rfl dX5_chainsOfAll_22 ?_
  refine am_getI hz1 fl_X5_28 (ln_3 hG) (lk_3 hG) rfl dX5_chainsOfAll_25 ?_
  refine am_icmp_ge (tgt := 65) hz1 dX5_chainsOfAll_28 (by decide) (fun c1 => ?_) (fun c1 => ?_)
  · replace h := h.1 c1
    refine am_lload hz1 dX5_chainsOfAll_65 4 rfl ?_
    exact am_lreturn hz dX5_chainsOfAll_67 h
  · replace h := h.2 c1
    refine am_aload_n hz1 dX5_chainsOfAll_31 0 rfl rfl ?_
    refine am_aload_n hz1 dX5_chainsOfAll_32 2 rfl rfl ?_
    refine am_iconst (v := 0) hz1 dX5_chainsOfAll_33 (by decide) ?_
    obtain ⟨g2, h⟩ := h
    refine am_cVf hz cv_X5_48 [.ref ((zB z).size + p3), .int 0] [] (c_X5_step hG hn_p3 hk_p3 hl_p3 (0 : Int32) g2) (ln_43 hG) (lk_43 hG) rfl rfl rfl ⟨Nat.le_refl _, Nat.le_refl _⟩ (Nat.le_of_ble_eq_true rfl) dX5_chainsOfAll_34 ?_
    refine am_lload hz1 dX5_chainsOfAll_37 5 rfl ?_
    refine am_iload hz1 dX5_chainsOfAll_39 3 rfl ?_
    refine am_i2l hz1 dX5_chainsOfAll_41 ?_
    refine am_lmul hz1 dX5_chainsOfAll_42 ?_
    refine am_lstore (lv' := [(7, .long (v7 * v4.toInt64)), (0, .ref ((zB z).size + 43)), (2, .int v2), (3, .ref ((zB z).size + p3)), (4, .int v4), (5, .long v5), (9, .int v9)]) hz1 dX5_chainsOfAll_43 rfl rfl ?_
    refine am_lload hz1 dX5_chainsOfAll_45 5 rfl ?_
    refine am_lload hz1 dX5_chainsOfAll_47 0 rfl ?_
    refine am_aload_n hz1 dX5_chainsOfAll_49 1 rfl rfl ?_
    refine am_getR hz1 fl_X5_9 (ln_43 hG) (lk_43 hG) (lr_43_1 hG) rfl dX5_chainsOfAll_50 ?_
    refine am_iload_n hz1 dX5_chainsOfAll_53 2 rfl rfl ?_
    obtain ⟨g3, h⟩ := h
    refine am_lald hz1 (ln_44 hG) (lk_44 hG) (by rw [(ll_44 hG)]; exact g3) dX5_chainsOfAll_54 ?_
    refine am_lmul hz1 dX5_chainsOfAll_55 ?_
    refine am_ladd hz1 dX5_chainsOfAll_56 ?_
    refine am_lstore (lv' := [(5, .long (v5 + ((v7 * v4.toInt64) * ((q_step L (I p3) (0 : Int32) (sz I 3)) 44 v2.toNatClampNeg)))), (7, .long (v7 * v4.toInt64)), (0, .ref ((zB z).size + 43)), (2, .int v2), (3, .ref ((zB z).size + p3)), (4, .int v4), (9, .int v9)]) hz1 dX5_chainsOfAll_57 rfl rfl ?_
    refine am_iinc (v := v9 + 1) (lv' := [(9, .int (v9 + 1)), (5, .long (v5 + ((v7 * v4.toInt64) * ((q_step L (I p3) (0 : Int32) (sz I 3)) 44 v2.toNatClampNeg)))), (7, .long (v7 * v4.toInt64)), (0, .ref ((zB z).size + 43)), (2, .int v2), (3, .ref ((zB z).size + p3)), (4, .int v4)]) hz1 dX5_chainsOfAll_59 6 rfl rfl rfl rfl ?_
    refine am_goto (tgt := 19) hz1 dX5_chainsOfAll_62 (by decide) ?_
    exact am_sub (lv' := [(0, .ref ((zB z).size + 43)), (2, .int v2), (3, .ref ((zB z).size + p3)), (4, .int v4), (5, .long (v5 + ((v7 * v4.toInt64) * ((q_step L (I p3) (0 : Int32) (sz I 3)) 44 v2.toNatClampNeg)))), (7, .long (v7 * v4.toInt64)), (9, .int (v9 + 1))]) [3, 4, 5, 6, 1, 2, 0] rfl h
set_option maxRecDepth 100000 in
set_option maxHeartbeats 4000000 in
theorem c_X5_chainsOfAll {l : Launch} {D : va_G} {B : Heap} {G : amG} {I : amI} {L : amL} {p3 : Nat} (hG : Lay G) (hn_p3 : p3 < gN G) (hk_p3 : gK G p3 = 50) (hl_p3 : gL G p3 = 16) (v1 : Int32) (v2 : Int32) (v4 : Int32) (hs : szOk I 3) (h1 : vp_in v1 16) (h2 : vp_in v2 16) : Fx l D B yX5_chainsOfAll cX5_chainsOfAll 10 (some .long) 2 [.ref (B.size + 43), .int v1, .int v2, .ref (B.size + p3), .int v4] G I L (some (.long (q_ca I L p3 v1 v2 v4 (sz I 3 - 1)))) I (q_ch I L p3 0 v1 (sz I 3 - 1)) := by
  refine Mx.of (by decide) rfl rfl (fun z e1 e2 e3 hz => ?_)
  subst e1; subst e2; subst e3
  refine b_X5_chainsOfAll_0 hz hG hn_p3 hk_p3 hl_p3 ?_
  obtain ⟨n, hn1, h16, hn⟩ := id hs
  rw [sz_eq hn h16] at hz
  refine ⟨h1, h2, ?_⟩
  refine for_up (P := fun k => Wx z 0 0 19 [(0, .ref ((zB z).size + 43)), (2, .int v2), (3, .ref ((zB z).size + p3)), (4, .int v4), (5, .long (q_ca I L p3 v1 v2 v4 k)), (7, .long (sgn v4 k)), (9, .int (nI (k + 1)))] [] G I (q_ch I L p3 0 v1 k)) (n := n - 1) ?_ ?_ (Nat.zero_le _)
  · refine b_X5_chainsOfAll_19 hz hG hn_p3 hk_p3 hl_p3 ⟨fun _ => ⟨rfl, rfl, rfl, rfl⟩, fun h => absurd ?_ h⟩
    rw [show n - 1 + 1 = n by omega]
    exact sz_le hn h16
  · intro k hk ih
    refine b_X5_chainsOfAll_19 hz hG hn_p3 hk_p3 hl_p3 ⟨fun h => absurd h (sz_ge hn h16 (by omega)), fun _ => ⟨hs, h2, ?_⟩⟩
    rw [nI_1]
    exact ih
set_option maxRecDepth 100000 in
set_option maxHeartbeats 4000000 in
theorem b_X5_takeAtom_0 {z : amZ} {post : amP} {G : amG} {I : amI} {L : amL} (hz : Go z cX5_takeAtom RX5 5 none 3 0 0 post) (hG : Lay G) {v1 : Int32} {v2 : Int32} (h : Wx z 0 0 17 [(0, .ref ((zB z).size + 43)), (1, .int v1), (2, .int v2), (3, .int 0)] [] G I (setL L 45 (va_cpy (L 44) (L 45) (0 : Int32).toNatClampNeg (0 : Int32).toNatClampNeg (16 : Int32).toNatClampNeg))) : Wx z 0 0 0 [(0, .ref ((zB z).size + 43)), (1, .int v1), (2, .int v2)] [] G I L := by
  have hz1 := hz.1
  refine am_aload_n hz1 dX5_takeAtom_0 0 rfl rfl ?_
  refine am_getR hz1 fl_X5_9 (ln_43 hG) (lk_43 hG) (lr_43_1 hG) rfl dX5_takeAtom_1 ?_
  refine am_iconst (v := 0) hz1 dX5_takeAtom_4 (by decide) ?_
  refine am_aload_n hz1 dX5_takeAtom_5 0 rfl rfl ?_
  refine am_getR hz1 fl_X5_15 (ln_43 hG) (lk_43 hG) (lr_43_2 hG) rfl dX5_takeAtom_6 ?_
  refine am_iconst (v := 0) hz1 dX5_takeAtom_9 (by decide) ?_
  refine am_bipush (v := 16) hz1 dX5_takeAtom_10 (by decide) ?_
  refine am_copyL hz ml_X5_34 (ln_44 hG) (lk_44 hG) (ln_45 hG) (lk_45 hG) (by decide) (by decide) (by decide) (by rw [(ll_44 hG)]; decide) (by rw [(ll_45 hG)]; decide) rfl (Nat.le_of_ble_eq_true rfl) dX5_takeAtom_12 ?_
  refine am_iconst (v := 0) hz1 dX5_takeAtom_15 (by decide) ?_
  refine am_istore_n (lv' := [(3, .int 0), (0, .ref ((zB z).size + 43)), (1, .int v1), (2, .int v2)]) hz1 dX5_takeAtom_16 rfl rfl rfl ?_
  exact am_sub (lv' := [(0, .ref ((zB z).size + 43)), (1, .int v1), (2, .int v2), (3, .int 0)]) [1, 2, 3, 0] rfl h
set_option maxRecDepth 100000 in
set_option maxHeartbeats 4000000 in
theorem b_X5_takeAtom_17 {z : amZ} {post : amP} {G : amG} {I : amI} {L : amL} (hz : Go z cX5_takeAtom RX5 5 none 3 0 0 post) (hG : Lay G) {v1 : Int32} {v2 : Int32} {v3 : Int32} (h : (((I 3 0) ≤ v3) → post none G I (setL L 44 (va_cpy (L 45) (L 44) (0 : Int32).toNatClampNeg (0 : Int32).toNatClampNeg (16 : Int32).toNatClampNeg))) ∧ ((¬ (I 3 0) ≤ v3) → ((¬ ((v2 >>> (v3 &&& 31)) &&& (1 : Int32)) = (1 : Int32)) → Wx z 0 0 17 [(0, .ref ((zB z).size + 43)), (1, .int v1), (2, .int v2), (3, .int (v3 + 1))] [] G I L) ∧ ((((v2 >>> (v3 &&& 31)) &&& (1 : Int32)) = (1 : Int32)) → (szOk I 3) ∧ (szOk I 3) ∧ (szOk I 3) ∧ (((q_least I 3 ((v2 &&& (q_from I 3 v3)) &&& (q_from I 3 v1))) < 0) → Wx z 0 0 17 [(0, .ref ((zB z).size + 43)), (1, .int v1), (2, .int v2), (3, .int (v3 + 1))] [] G I L) ∧ ((¬ (q_least I 3 ((v2 &&& (q_from I 3 v3)) &&& (q_from I 3 v1))) < 0) → vp_in (q_least I 3 ((v2 &&& (q_from I 3 v3)) &&& (q_from I 3 v1))) 16 ∧ vp_in v3 16 ∧ vp_in (q_least I 3 ((v2 &&& (q_from I 3 v3)) &&& (q_from I 3 v1))) 16 ∧ Wx z 0 0 17 [(0, .ref ((zB z).size + 43)), (1, .int v1), (2, .int v2), (3, .int (v3 + 1))] [] G I (setL L 45 (vp_updL (L 45) (q_least I 3 ((v2 &&& (q_from I 3 v3)) &&& (q_from I 3 v1))).toNatClampNeg ((L 45 (q_least I 3 ((v2 &&& (q_from I 3 v3)) &&& (q_from I 3 v1))).toNatClampNeg) - (L 44 v3.toNatClampNeg)))))))) : Wx z 0 0 17 [(0, .ref ((zB z).size + 43)), (1, .int v1), (2, .int v2), (3, .int v3)] [] G I L := by
  have hz1 := hz.1
  refine am_iload_n hz1 dX5_takeAtom_17 3 rfl rfl ?_
  refine am_aload_n hz1 dX5_takeAtom_18 0 rfl rfl ?_
  refine am_getR hz1 fl_X5_18 (ln_43 hG) (lk_43 hG) (lr_43_0 hG) rfl dX5_takeAtom_19 ?_
  refine am_getI hz1 fl_X5_28 (ln_3 hG) (lk_3 hG) rfl dX5_takeAtom_22 ?_
  refine am_icmp_ge (tgt := 92) hz1 dX5_takeAtom_25 (by decide) (fun c1 => ?_) (fun c1 => ?_)
  · replace h := h.1 c1
    refine am_aload_n hz1 dX5_takeAtom_92 0 rfl rfl ?_
    refine am_getR hz1 fl_X5_15 (ln_43 hG) (lk_43 hG) (lr_43_2 hG) rfl dX5_takeAtom_93 ?_
    refine am_iconst (v := 0) hz1 dX5_takeAtom_96 (by decide) ?_
    refine am_aload_n hz1 dX5_takeAtom_97 0 rfl rfl ?_
    refine am_getR hz1 fl_X5_9 (ln_43 hG) (lk_43 hG) (lr_43_1 hG) rfl dX5_takeAtom_98 ?_
    refine am_iconst (v := 0) hz1 dX5_takeAtom_101 (by decide) ?_
    refine am_bipush (v := 16) hz1 dX5_takeAtom_102 (by decide) ?_
    refine am_copyL hz ml_X5_34 (ln_45 hG) (lk_45 hG) (ln_44 hG) (lk_44 hG) (by decide) (by decide) (by decide) (by rw [(ll_45 hG)]; decide) (by rw [(ll_44 hG)]; decide) rfl (Nat.le_of_ble_eq_true rfl) dX5_takeAtom_104 ?_
    exact am_return hz dX5_takeAtom_107 h
  · replace h := h.2 c1
    refine am_iload_n hz1 dX5_takeAtom_28 2 rfl rfl ?_
    refine am_iload_n hz1 dX5_takeAtom_29 3 rfl rfl ?_
    refine am_ishr hz1 dX5_takeAtom_30 ?_
    refine am_iconst (v := 1) hz1 dX5_takeAtom_31 (by decide) ?_
    refine am_iand hz1 dX5_takeAtom_32 ?_
    refine am_iconst (v := 1) hz1 dX5_takeAtom_33 (by decide) ?_
    refine am_icmp_ne (tgt := 86) hz1 dX5_takeAtom_34 (by decide) (fun c3 => ?_) (fun c3 => ?_)
    · replace h := h.1 c3
      refine am_iinc (v := v3 + 1) (lv' := [(3, .int (v3 + 1)), (0, .ref ((zB z).size + 43)), (1, .int v1), (2, .int v2)]) hz1 dX5_takeAtom_86 3 rfl rfl rfl rfl ?_
      refine am_goto (tgt := 17) hz1 dX5_takeAtom_89 (by decide) ?_
      exact am_sub (lv' := [(0, .ref ((zB z).size + 43)), (1, .int v1), (2, .int v2), (3, .int (v3 + 1))]) [1, 2, 3, 0] rfl h
    · replace h := h.2 c3
      refine am_aload_n hz1 dX5_takeAtom_37 0 rfl rfl ?_
      refine am_getR hz1 fl_X5_18 (ln_43 hG) (lk_43 hG) (lr_43_0 hG) rfl dX5_takeAtom_38 ?_
      refine am_iload_n hz1 dX5_takeAtom_41 2 rfl rfl ?_
      refine am_aload_n hz1 dX5_takeAtom_42 0 rfl rfl ?_
      refine am_getR hz1 fl_X5_18 (ln_43 hG) (lk_43 hG) (lr_43_0 hG) rfl dX5_takeAtom_43 ?_
      refine am_iload_n hz1 dX5_takeAtom_46 3 rfl rfl ?_
      obtain ⟨g4, h⟩ := h
      refine am_cVf hz cv_X5_63 [.int v3] [.int v2, .ref ((zB z).size + 3)] (c_X4_from hG isO_3 v3 g4) (ln_3 hG) (lk_3 hG) rfl rfl rfl ⟨Nat.le_refl _, Nat.le_refl _⟩ (Nat.le_of_ble_eq_true rfl) dX5_takeAtom_47 ?_
      refine am_iand hz1 dX5_takeAtom_50 ?_
      refine am_aload_n hz1 dX5_takeAtom_51 0 rfl rfl ?_
      refine am_getR hz1 fl_X5_18 (ln_43 hG) (lk_43 hG) (lr_43_0 hG) rfl dX5_takeAtom_52 ?_
      refine am_iload_n hz1 dX5_takeAtom_55 1 rfl rfl ?_
      obtain ⟨g5, h⟩ := h
      refine am_cVf hz cv_X5_63 [.int v1] [.int (v2 &&& (q_from I 3 v3)), .ref ((zB z).size + 3)] (c_X4_from hG isO_3 v1 g5) (ln_3 hG) (lk_3 hG) rfl rfl rfl ⟨Nat.le_refl _, Nat.le_refl _⟩ (Nat.le_of_ble_eq_true rfl) dX5_takeAtom_56 ?_
      refine am_iand hz1 dX5_takeAtom_59 ?_
      obtain ⟨g6, h⟩ := h
      refine am_cVf hz cv_X5_67 [.int ((v2 &&& (q_from I 3 v3)) &&& (q_from I 3 v1))] [] (c_X4_least hG isO_3 ((v2 &&& (q_from I 3 v3)) &&& (q_from I 3 v1)) g6) (ln_3 hG) (lk_3 hG) rfl rfl rfl ⟨Nat.le_refl _, Nat.le_refl _⟩ (Nat.le_of_ble_eq_true rfl) dX5_takeAtom_60 ?_
      refine am_istore (lv' := [(4, .int (q_least I 3 ((v2 &&& (q_from I 3 v3)) &&& (q_from I 3 v1)))), (0, .ref ((zB z).size + 43)), (1, .int v1), (2, .int v2), (3, .int v3)]) hz1 dX5_takeAtom_63 rfl rfl ?_
      refine am_iload hz1 dX5_takeAtom_65 0 rfl ?_
      refine am_if_lt (tgt := 86) hz1 dX5_takeAtom_67 (by decide) (fun c7 => ?_) (fun c7 => ?_)
      · replace h := h.1 c7
        refine am_iinc (v := v3 + 1) (lv' := [(3, .int (v3 + 1)), (4, .int (q_least I 3 ((v2 &&& (q_from I 3 v3)) &&& (q_from I 3 v1)))), (0, .ref ((zB z).size + 43)), (1, .int v1), (2, .int v2)]) hz1 dX5_takeAtom_86 4 rfl rfl rfl rfl ?_
        refine am_goto (tgt := 17) hz1 dX5_takeAtom_89 (by decide) ?_
        exact am_sub (lv' := [(0, .ref ((zB z).size + 43)), (1, .int v1), (2, .int v2), (3, .int (v3 + 1))]) [2, 3, 4, 0] rfl h
      · replace h := h.2 c7
        refine am_aload_n hz1 dX5_takeAtom_70 1 rfl rfl ?_
        refine am_getR hz1 fl_X5_15 (ln_43 hG) (lk_43 hG) (lr_43_2 hG) rfl dX5_takeAtom_71 ?_
        refine am_iload hz1 dX5_takeAtom_74 0 rfl ?_
        refine am_dup2 hz1 dX5_takeAtom_76 rfl rfl ?_
        obtain ⟨g8, h⟩ := h
        refine am_lald hz1 (ln_45 hG) (lk_45 hG) (by rw [(ll_45 hG)]; exact g8) dX5_takeAtom_77 ?_
        refine am_aload_n hz1 dX5_takeAtom_78 1 rfl rfl ?_
        refine am_getR hz1 fl_X5_9 (ln_43 hG) (lk_43 hG) (lr_43_1 hG) rfl dX5_takeAtom_79 ?_
        refine am_iload_n hz1 dX5_takeAtom_82 4 rfl rfl ?_
        obtain ⟨g9, h⟩ := h
        refine am_lald hz1 (ln_44 hG) (lk_44 hG) (by rw [(ll_44 hG)]; exact g9) dX5_takeAtom_83 ?_
        refine am_lsub hz1 dX5_takeAtom_84 ?_
        obtain ⟨g10, h⟩ := h
        refine am_last hz1 (ln_45 hG) (lk_45 hG) (by rw [(ll_45 hG)]; exact g10) dX5_takeAtom_85 ?_
        refine am_iinc (v := v3 + 1) (lv' := [(3, .int (v3 + 1)), (4, .int (q_least I 3 ((v2 &&& (q_from I 3 v3)) &&& (q_from I 3 v1)))), (0, .ref ((zB z).size + 43)), (1, .int v1), (2, .int v2)]) hz1 dX5_takeAtom_86 4 rfl rfl rfl rfl ?_
        refine am_goto (tgt := 17) hz1 dX5_takeAtom_89 (by decide) ?_
        exact am_sub (lv' := [(0, .ref ((zB z).size + 43)), (1, .int v1), (2, .int v2), (3, .int (v3 + 1))]) [2, 3, 4, 0] rfl h
set_option maxRecDepth 100000 in
set_option maxHeartbeats 4000000 in
theorem c_X5_takeAtom {l : Launch} {D : va_G} {B : Heap} {G : amG} {I : amI} {L : amL}  (hG : Lay G)  (v1 : Int32) (v2 : Int32) (hs : szOk I 3) : Fx l D B yX5_takeAtom cX5_takeAtom 5 none 3 [.ref (B.size + 43), .int v1, .int v2] G I L none I (q_ta I L v1 v2) := by
  refine Mx.of (by decide) rfl rfl (fun z e1 e2 e3 hz => ?_)
  subst e1; subst e2; subst e3
  refine b_X5_takeAtom_0 hz hG ?_
  obtain ⟨n, hn1, h16, hn⟩ := id hs
  refine for_up (P := fun k => Wx z 0 0 17 [(0, .ref ((zB z).size + 43)), (1, .int v1), (2, .int v2), (3, .int (nI k))] [] G I (setL L 45 (taN I (L 44) (cp16 (L 44) (L 45)) v1 v2 k))) (n := n) ?_ ?_ (Nat.zero_le n)
  · refine b_X5_takeAtom_17 hz hG ⟨fun _ => ⟨rfl, rfl, rfl, ?_⟩, fun h => absurd (sz_le hn h16) h⟩
    rw [setL_s, setL_n (by decide), q_ta, sz_eq hn h16]
    rfl
  · intro k hk ih
    refine b_X5_takeAtom_17 hz hG ⟨fun h => absurd h (sz_ge hn h16 hk), fun _ => ⟨fun h => ?_, fun h => ⟨hs, hs, hs, fun h2 => ?_, fun h2 => ?_⟩⟩⟩
    · rw [taN, if_neg (by rw [(b_bit0 _ k (by omega)).mp h, Bool.false_and]; decide)] at ih
      rw [nI_1]
      exact ih
    · rw [taN, if_neg (by rw [decide_eq_false (not_not_intro (show taJ I v1 v2 k < 0 from h2)), Bool.and_false]; decide)] at ih
      rw [nI_1]
      exact ih
    · obtain ⟨w, hw, ew⟩ := least_in hs h2
      rw [taN, if_pos (by rw [(b_bit _ k (by omega)).mp h, decide_eq_true (show ¬ taJ I v1 v2 k < 0 from h2)]; rfl)] at ih
      rw [taJ, ew] at ih
      rw [ew, setL_s, setL_n (by decide), setL_ss, nI_1, cl_nI (n := k) (by omega)]
      exact ⟨in_nI (by omega) (by decide), in16 h16 hk, in_nI (by omega) (by decide), ih⟩
set_option maxRecDepth 100000 in
set_option maxHeartbeats 4000000 in
theorem b_X5_crossCut_0 {z : amZ} {post : amP} {G : amG} {I : amI} {L : amL} (hz : Go z cX5_crossCut RX5 6 (some .long) 4 0 0 post) (hG : Lay G) {v1 : Int32} {v2 : Int32} (h : (szOk I 3) ∧ vp_in v1 16 ∧ (vp_in v1 16) ∧ Wx z 0 0 31 [(0, .ref ((zB z).size + 43)), (2, .int v2), (3, .int (q_between I 3 v1 v2)), (4, .int ((I 6 v1.toNatClampNeg) &&& (q_between I 3 v1 v2))), (5, .int 0)] [] G I (q_start L v1)) : Wx z 0 0 0 [(0, .ref ((zB z).size + 43)), (1, .int v1), (2, .int v2)] [] G I L := by
  have hz1 := hz.1
  refine am_aload_n hz1 dX5_crossCut_0 0 rfl rfl ?_
  refine am_getR hz1 fl_X5_18 (ln_43 hG) (lk_43 hG) (lr_43_0 hG) rfl dX5_crossCut_1 ?_
  refine am_iload_n hz1 dX5_crossCut_4 1 rfl rfl ?_
  refine am_iload_n hz1 dX5_crossCut_5 2 rfl rfl ?_
  obtain ⟨g1, h⟩ := h
  refine am_cVf hz cv_X5_52 [.int v1, .int v2] [] (c_X4_between hG isO_3 v1 v2 g1) (ln_3 hG) (lk_3 hG) rfl rfl rfl ⟨Nat.le_refl _, Nat.le_refl _⟩ (Nat.le_of_ble_eq_true rfl) dX5_crossCut_6 ?_
  refine am_istore_n (lv' := [(3, .int (q_between I 3 v1 v2)), (0, .ref ((zB z).size + 43)), (1, .int v1), (2, .int v2)]) hz1 dX5_crossCut_9 rfl rfl rfl ?_
  refine am_aload_n hz1 dX5_crossCut_10 1 rfl rfl ?_
  refine am_getR hz1 fl_X5_18 (ln_43 hG) (lk_43 hG) (lr_43_0 hG) rfl dX5_crossCut_11 ?_
  refine am_getR hz1 fl_X5_56 (ln_3 hG) (lk_3 hG) (lr_3_3 hG) rfl dX5_crossCut_14 ?_
  refine am_iload_n hz1 dX5_crossCut_17 2 rfl rfl ?_
  obtain ⟨g2, h⟩ := h
  refine am_iald hz1 (ln_6 hG) (lk_6 hG) (by rw [(ll_6 hG)]; exact g2) dX5_crossCut_18 ?_
  refine am_iload_n hz1 dX5_crossCut_19 0 rfl rfl ?_
  refine am_iand hz1 dX5_crossCut_20 ?_
  refine am_istore (lv' := [(4, .int ((I 6 v1.toNatClampNeg) &&& (q_between I 3 v1 v2))), (3, .int (q_between I 3 v1 v2)), (0, .ref ((zB z).size + 43)), (1, .int v1), (2, .int v2)]) hz1 dX5_crossCut_21 rfl rfl ?_
  refine am_aload_n hz1 dX5_crossCut_23 2 rfl rfl ?_
  refine am_iload_n hz1 dX5_crossCut_24 3 rfl rfl ?_
  obtain ⟨g3, h⟩ := h
  refine am_cVf hz cv_X5_40 [.int v1] [] (c_X5_start hG v1 g3) (ln_43 hG) (lk_43 hG) rfl rfl rfl ⟨Nat.le_refl _, Nat.le_refl _⟩ (Nat.le_of_ble_eq_true rfl) dX5_crossCut_25 ?_
  refine am_iconst (v := 0) hz1 dX5_crossCut_28 (by decide) ?_
  refine am_istore (lv' := [(5, .int 0), (4, .int ((I 6 v1.toNatClampNeg) &&& (q_between I 3 v1 v2))), (3, .int (q_between I 3 v1 v2)), (0, .ref ((zB z).size + 43)), (1, .int v1), (2, .int v2)]) hz1 dX5_crossCut_29 rfl rfl ?_
  exact am_sub (lv' := [(0, .ref ((zB z).size + 43)), (2, .int v2), (3, .int (q_between I 3 v1 v2)), (4, .int ((I 6 v1.toNatClampNeg) &&& (q_between I 3 v1 v2))), (5, .int 0)]) [3, 5, 2, 1, 0] rfl h
set_option maxRecDepth 100000 in
set_option maxHeartbeats 4000000 in
theorem b_X5_crossCut_31 {z : amZ} {post : amP} {G : amG} {I : amI} {L : amL} (hz : Go z cX5_crossCut RX5 6 (some .long) 4 0 0 post) (hG : Lay G) {v2 : Int32} {v3 : Int32} {v4 : Int32} {v5 : Int32} (h : (((I 3 0) ≤ v5) → vp_in v2 16 ∧ post (some (.long (L 44 v2.toNatClampNeg))) G I L) ∧ ((¬ (I 3 0) ≤ v5) → ((¬ ((v4 >>> (v5 &&& 31)) &&& (1 : Int32)) = (1 : Int32)) → Wx z 0 0 31 [(0, .ref ((zB z).size + 43)), (2, .int v2), (3, .int v3), (4, .int v4), (5, .int (v5 + 1))] [] G I L) ∧ ((((v4 >>> (v5 &&& 31)) &&& (1 : Int32)) = (1 : Int32)) → (szOk I 3) ∧ Wx z 0 0 31 [(0, .ref ((zB z).size + 43)), (2, .int v2), (3, .int v3), (4, .int v4), (5, .int (v5 + 1))] [] G I (q_ta I L v5 v3)))) : Wx z 0 0 31 [(0, .ref ((zB z).size + 43)), (2, .int v2), (3, .int v3), (4, .int v4), (5, .int v5)] [] G I L := by
  have hz1 := hz.1
  refine am_iload hz1 dX5_crossCut_31 4 rfl ?_
  refine am_aload_n hz1 dX5_crossCut_33 0 rfl rfl ?_
  refine am_getR hz1 fl_X5_18 (ln_43 hG) (lk_43 hG) (lr_43_0 hG) rfl dX5_crossCut_34 ?_
  refine am_getI hz1 fl_X5_28 (ln_3 hG) (lk_3 hG) rfl dX5_crossCut_37 ?_
  refine am_icmp_ge (tgt := 67) hz1 dX5_crossCut_40 (by decide) (fun c1 => ?_) (fun c1 => ?_)
  · replace h := h.1 c1
    refine am_aload_n hz1 dX5_crossCut_67 0 rfl rfl ?_
    refine am_getR hz1 fl_X5_9 (ln_43 hG) (lk_43 hG) (lr_43_1 hG) rfl dX5_crossCut_68 ?_
    refine am_iload_n hz1 dX5_crossCut_71 1 rfl rfl ?_
    obtain ⟨g2, h⟩ := h
    refine am_lald hz1 (ln_44 hG) (lk_44 hG) (by rw [(ll_44 hG)]; exact g2) dX5_crossCut_72 ?_
    exact am_lreturn hz dX5_crossCut_73 h
  · replace h := h.2 c1
    refine am_iload hz1 dX5_crossCut_43 3 rfl ?_
    refine am_iload hz1 dX5_crossCut_45 4 rfl ?_
    refine am_ishr hz1 dX5_crossCut_47 ?_
    refine am_iconst (v := 1) hz1 dX5_crossCut_48 (by decide) ?_
    refine am_iand hz1 dX5_crossCut_49 ?_
    refine am_iconst (v := 1) hz1 dX5_crossCut_50 (by decide) ?_
    refine am_icmp_ne (tgt := 61) hz1 dX5_crossCut_51 (by decide) (fun c3 => ?_) (fun c3 => ?_)
    · replace h := h.1 c3
      refine am_iinc (v := v5 + 1) (lv' := [(5, .int (v5 + 1)), (0, .ref ((zB z).size + 43)), (2, .int v2), (3, .int v3), (4, .int v4)]) hz1 dX5_crossCut_61 4 rfl rfl rfl rfl ?_
      refine am_goto (tgt := 31) hz1 dX5_crossCut_64 (by decide) ?_
      exact am_sub (lv' := [(0, .ref ((zB z).size + 43)), (2, .int v2), (3, .int v3), (4, .int v4), (5, .int (v5 + 1))]) [1, 2, 3, 4, 0] rfl h
    · replace h := h.2 c3
      refine am_aload_n hz1 dX5_crossCut_54 0 rfl rfl ?_
      refine am_iload hz1 dX5_crossCut_55 4 rfl ?_
      refine am_iload_n hz1 dX5_crossCut_57 2 rfl rfl ?_
      obtain ⟨g4, h⟩ := h
      refine am_cVf hz cv_X5_59 [.int v5, .int v3] [] (c_X5_takeAtom hG v5 v3 g4) (ln_43 hG) (lk_43 hG) rfl rfl rfl ⟨Nat.le_refl _, Nat.le_refl _⟩ (Nat.le_of_ble_eq_true rfl) dX5_crossCut_58 ?_
      refine am_iinc (v := v5 + 1) (lv' := [(5, .int (v5 + 1)), (0, .ref ((zB z).size + 43)), (2, .int v2), (3, .int v3), (4, .int v4)]) hz1 dX5_crossCut_61 4 rfl rfl rfl rfl ?_
      refine am_goto (tgt := 31) hz1 dX5_crossCut_64 (by decide) ?_
      exact am_sub (lv' := [(0, .ref ((zB z).size + 43)), (2, .int v2), (3, .int v3), (4, .int v4), (5, .int (v5 + 1))]) [1, 2, 3, 4, 0] rfl h
set_option maxRecDepth 100000 in
set_option maxHeartbeats 4000000 in
theorem c_X5_crossCut {l : Launch} {D : va_G} {B : Heap} {G : amG} {I : amI} {L : amL}  (hG : Lay G)  (v1 : Int32) (v2 : Int32) (hs : szOk I 3) (h1 : vp_in v1 16) (h2 : vp_in v2 16) : Fx l D B yX5_crossCut cX5_crossCut 6 (some .long) 4 [.ref (B.size + 43), .int v1, .int v2] G I L (some (.long (q_cc I L v1 v2 (sz I 3) 44 v2.toNatClampNeg))) I (q_cc I L v1 v2 (sz I 3)) := by
  refine Mx.of (by decide) rfl rfl (fun z e1 e2 e3 hz => ?_)
  subst e1; subst e2; subst e3
  refine b_X5_crossCut_0 hz hG ?_
  obtain ⟨n, hn1, h16, hn⟩ := id hs
  rw [sz_eq hn h16] at hz
  refine ⟨hs, h1, h1, ?_⟩
  refine for_up (P := fun k => Wx z 0 0 31 [(0, .ref ((zB z).size + 43)), (2, .int v2), (3, .int (q_between I 3 v1 v2)), (4, .int (I 6 v1.toNatClampNeg &&& q_between I 3 v1 v2)), (5, .int (nI k))] [] G I (q_cc I L v1 v2 k)) (n := n) ?_ ?_ (Nat.zero_le n)
  · exact b_X5_crossCut_31 hz hG ⟨fun _ => ⟨h2, rfl, rfl, rfl, rfl⟩, fun h => absurd (sz_le hn h16) h⟩
  · intro k hk ih
    refine b_X5_crossCut_31 hz hG ⟨fun h => absurd h (sz_ge hn h16 hk), fun _ => ⟨fun h => ?_, fun h => ⟨hs, ?_⟩⟩⟩
    · rw [q_cc, if_neg (by rw [(b_bit0 _ k (by omega)).mp h]; decide)] at ih
      rw [nI_1]
      exact ih
    · rw [q_cc, if_pos ((b_bit _ k (by omega)).mp h)] at ih
      rw [nI_1]
      exact ih
