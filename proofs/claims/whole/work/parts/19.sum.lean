/-! SUMS THAT KNOW OF OVERFLOW -/
theorem tabx_3_0 {x : Int32} (h0 : ¬ x = 0) (h1 : ¬ x = 1) (h2 : ¬ x = 2) : x < 0 ∨ 2 < x := by
  rw [← Int32.toInt_inj] at h0 h1 h2
  rw [Int32.lt_iff_toInt_lt, Int32.lt_iff_toInt_lt]
  rw [show (0 : Int32).toInt = 0 from by decide] at h0
  rw [show (1 : Int32).toInt = 1 from by decide] at h1
  rw [show (2 : Int32).toInt = 2 from by decide] at h2
  rw [show (0 : Int32).toInt = 0 from by decide, show (2 : Int32).toInt = 2 from by decide]
  omega
theorem tabx_4_0 {x : Int32} (h0 : ¬ x = 0) (h1 : ¬ x = 1) (h2 : ¬ x = 2) (h3 : ¬ x = 3) : x < 0 ∨ 3 < x := by
  rw [← Int32.toInt_inj] at h0 h1 h2 h3
  rw [Int32.lt_iff_toInt_lt, Int32.lt_iff_toInt_lt]
  rw [show (0 : Int32).toInt = 0 from by decide] at h0
  rw [show (1 : Int32).toInt = 1 from by decide] at h1
  rw [show (2 : Int32).toInt = 2 from by decide] at h2
  rw [show (3 : Int32).toInt = 3 from by decide] at h3
  rw [show (0 : Int32).toInt = 0 from by decide, show (3 : Int32).toInt = 3 from by decide]
  omega
theorem tabx_4_1 {x : Int32} (h0 : ¬ x = 1) (h1 : ¬ x = 2) (h2 : ¬ x = 3) (h3 : ¬ x = 4) : x < 1 ∨ 4 < x := by
  rw [← Int32.toInt_inj] at h0 h1 h2 h3
  rw [Int32.lt_iff_toInt_lt, Int32.lt_iff_toInt_lt]
  rw [show (1 : Int32).toInt = 1 from by decide] at h0
  rw [show (2 : Int32).toInt = 2 from by decide] at h1
  rw [show (3 : Int32).toInt = 3 from by decide] at h2
  rw [show (4 : Int32).toInt = 4 from by decide] at h3
  rw [show (1 : Int32).toInt = 1 from by decide, show (4 : Int32).toInt = 4 from by decide]
  omega
theorem tabx_5_0 {x : Int32} (h0 : ¬ x = 0) (h1 : ¬ x = 1) (h2 : ¬ x = 2) (h3 : ¬ x = 3) (h4 : ¬ x = 4) : x < 0 ∨ 4 < x := by
  rw [← Int32.toInt_inj] at h0 h1 h2 h3 h4
  rw [Int32.lt_iff_toInt_lt, Int32.lt_iff_toInt_lt]
  rw [show (0 : Int32).toInt = 0 from by decide] at h0
  rw [show (1 : Int32).toInt = 1 from by decide] at h1
  rw [show (2 : Int32).toInt = 2 from by decide] at h2
  rw [show (3 : Int32).toInt = 3 from by decide] at h3
  rw [show (4 : Int32).toInt = 4 from by decide] at h4
  rw [show (0 : Int32).toInt = 0 from by decide, show (4 : Int32).toInt = 4 from by decide]
  omega
theorem tabx_6_0 {x : Int32} (h0 : ¬ x = 0) (h1 : ¬ x = 1) (h2 : ¬ x = 2) (h3 : ¬ x = 3) (h4 : ¬ x = 4) (h5 : ¬ x = 5) : x < 0 ∨ 5 < x := by
  rw [← Int32.toInt_inj] at h0 h1 h2 h3 h4 h5
  rw [Int32.lt_iff_toInt_lt, Int32.lt_iff_toInt_lt]
  rw [show (0 : Int32).toInt = 0 from by decide] at h0
  rw [show (1 : Int32).toInt = 1 from by decide] at h1
  rw [show (2 : Int32).toInt = 2 from by decide] at h2
  rw [show (3 : Int32).toInt = 3 from by decide] at h3
  rw [show (4 : Int32).toInt = 4 from by decide] at h4
  rw [show (5 : Int32).toInt = 5 from by decide] at h5
  rw [show (0 : Int32).toInt = 0 from by decide, show (5 : Int32).toInt = 5 from by decide]
  omega
theorem tabx_6_1 {x : Int32} (h0 : ¬ x = 1) (h1 : ¬ x = 2) (h2 : ¬ x = 3) (h3 : ¬ x = 4) (h4 : ¬ x = 5) (h5 : ¬ x = 6) : x < 1 ∨ 6 < x := by
  rw [← Int32.toInt_inj] at h0 h1 h2 h3 h4 h5
  rw [Int32.lt_iff_toInt_lt, Int32.lt_iff_toInt_lt]
  rw [show (1 : Int32).toInt = 1 from by decide] at h0
  rw [show (2 : Int32).toInt = 2 from by decide] at h1
  rw [show (3 : Int32).toInt = 3 from by decide] at h2
  rw [show (4 : Int32).toInt = 4 from by decide] at h3
  rw [show (5 : Int32).toInt = 5 from by decide] at h4
  rw [show (6 : Int32).toInt = 6 from by decide] at h5
  rw [show (1 : Int32).toInt = 1 from by decide, show (6 : Int32).toInt = 6 from by decide]
  omega
theorem tabx_15_0 {x : Int32} (h0 : ¬ x = 0) (h1 : ¬ x = 1) (h2 : ¬ x = 2) (h3 : ¬ x = 3) (h4 : ¬ x = 4) (h5 : ¬ x = 5) (h6 : ¬ x = 6) (h7 : ¬ x = 7) (h8 : ¬ x = 8) (h9 : ¬ x = 9) (h10 : ¬ x = 10) (h11 : ¬ x = 11) (h12 : ¬ x = 12) (h13 : ¬ x = 13) (h14 : ¬ x = 14) : x < 0 ∨ 14 < x := by
  rw [← Int32.toInt_inj] at h0 h1 h2 h3 h4 h5 h6 h7 h8 h9 h10 h11 h12 h13 h14
  rw [Int32.lt_iff_toInt_lt, Int32.lt_iff_toInt_lt]
  rw [show (0 : Int32).toInt = 0 from by decide] at h0
  rw [show (1 : Int32).toInt = 1 from by decide] at h1
  rw [show (2 : Int32).toInt = 2 from by decide] at h2
  rw [show (3 : Int32).toInt = 3 from by decide] at h3
  rw [show (4 : Int32).toInt = 4 from by decide] at h4
  rw [show (5 : Int32).toInt = 5 from by decide] at h5
  rw [show (6 : Int32).toInt = 6 from by decide] at h6
  rw [show (7 : Int32).toInt = 7 from by decide] at h7
  rw [show (8 : Int32).toInt = 8 from by decide] at h8
  rw [show (9 : Int32).toInt = 9 from by decide] at h9
  rw [show (10 : Int32).toInt = 10 from by decide] at h10
  rw [show (11 : Int32).toInt = 11 from by decide] at h11
  rw [show (12 : Int32).toInt = 12 from by decide] at h12
  rw [show (13 : Int32).toInt = 13 from by decide] at h13
  rw [show (14 : Int32).toInt = 14 from by decide] at h14
  rw [show (0 : Int32).toInt = 0 from by decide, show (14 : Int32).toInt = 14 from by decide]
  omega
theorem tabx_32_0 {x : Int32} (h0 : ¬ x = 0) (h1 : ¬ x = 1) (h2 : ¬ x = 2) (h3 : ¬ x = 3) (h4 : ¬ x = 4) (h5 : ¬ x = 5) (h6 : ¬ x = 6) (h7 : ¬ x = 7) (h8 : ¬ x = 8) (h9 : ¬ x = 9) (h10 : ¬ x = 10) (h11 : ¬ x = 11) (h12 : ¬ x = 12) (h13 : ¬ x = 13) (h14 : ¬ x = 14) (h15 : ¬ x = 15) (h16 : ¬ x = 16) (h17 : ¬ x = 17) (h18 : ¬ x = 18) (h19 : ¬ x = 19) (h20 : ¬ x = 20) (h21 : ¬ x = 21) (h22 : ¬ x = 22) (h23 : ¬ x = 23) (h24 : ¬ x = 24) (h25 : ¬ x = 25) (h26 : ¬ x = 26) (h27 : ¬ x = 27) (h28 : ¬ x = 28) (h29 : ¬ x = 29) (h30 : ¬ x = 30) (h31 : ¬ x = 31) : x < 0 ∨ 31 < x := by
  rw [← Int32.toInt_inj] at h0 h1 h2 h3 h4 h5 h6 h7 h8 h9 h10 h11 h12 h13 h14 h15 h16 h17 h18 h19 h20 h21 h22 h23 h24 h25 h26 h27 h28 h29 h30 h31
  rw [Int32.lt_iff_toInt_lt, Int32.lt_iff_toInt_lt]
  rw [show (0 : Int32).toInt = 0 from by decide] at h0
  rw [show (1 : Int32).toInt = 1 from by decide] at h1
  rw [show (2 : Int32).toInt = 2 from by decide] at h2
  rw [show (3 : Int32).toInt = 3 from by decide] at h3
  rw [show (4 : Int32).toInt = 4 from by decide] at h4
  rw [show (5 : Int32).toInt = 5 from by decide] at h5
  rw [show (6 : Int32).toInt = 6 from by decide] at h6
  rw [show (7 : Int32).toInt = 7 from by decide] at h7
  rw [show (8 : Int32).toInt = 8 from by decide] at h8
  rw [show (9 : Int32).toInt = 9 from by decide] at h9
  rw [show (10 : Int32).toInt = 10 from by decide] at h10
  rw [show (11 : Int32).toInt = 11 from by decide] at h11
  rw [show (12 : Int32).toInt = 12 from by decide] at h12
  rw [show (13 : Int32).toInt = 13 from by decide] at h13
  rw [show (14 : Int32).toInt = 14 from by decide] at h14
  rw [show (15 : Int32).toInt = 15 from by decide] at h15
  rw [show (16 : Int32).toInt = 16 from by decide] at h16
  rw [show (17 : Int32).toInt = 17 from by decide] at h17
  rw [show (18 : Int32).toInt = 18 from by decide] at h18
  rw [show (19 : Int32).toInt = 19 from by decide] at h19
  rw [show (20 : Int32).toInt = 20 from by decide] at h20
  rw [show (21 : Int32).toInt = 21 from by decide] at h21
  rw [show (22 : Int32).toInt = 22 from by decide] at h22
  rw [show (23 : Int32).toInt = 23 from by decide] at h23
  rw [show (24 : Int32).toInt = 24 from by decide] at h24
  rw [show (25 : Int32).toInt = 25 from by decide] at h25
  rw [show (26 : Int32).toInt = 26 from by decide] at h26
  rw [show (27 : Int32).toInt = 27 from by decide] at h27
  rw [show (28 : Int32).toInt = 28 from by decide] at h28
  rw [show (29 : Int32).toInt = 29 from by decide] at h29
  rw [show (30 : Int32).toInt = 30 from by decide] at h30
  rw [show (31 : Int32).toInt = 31 from by decide] at h31
  rw [show (0 : Int32).toInt = 0 from by decide, show (31 : Int32).toInt = 31 from by decide]
  omega
def sI (I : amI) (v : Int32) : amI := setI I 34 (upd (I 34) 1 v)
def sL (L : amL) (t : Int64) : amL := setL L 34 (vp_updL (L 34) 0 t)
theorem sI_v {I : amI} {v : Int32} : sI I v 34 1 = v := by rw [sI, setI_s, upd_s]
theorem sI_o {I : amI} {v : Int32} {q : Nat} (h : q ≠ 34) : sI I v q = I q := by rw [sI, setI_n h]
theorem sI_s {I : amI} {v w : Int32} : sI (sI I v) w = sI I w := by
  rw [sI, sI, setI_ss, setI_s, sI]
  congr 1
  funext j
  simp only [upd]
  by_cases h : j = 1 <;> simp [h]
theorem sI_id {I : amI} : sI I (I 34 1) = I := by
  rw [sI]
  have : upd (I 34) 1 (I 34 1) = I 34 := by funext j; simp only [upd]; by_cases h : j = 1 <;> simp [h]
  rw [this, setI_id]
theorem sL_v {L : amL} {v : Int64} : sL L v 34 0 = v := by rw [sL, setL_s]; exact if_pos rfl
theorem sL_o {L : amL} {v : Int64} {q : Nat} (h : q ≠ 34) : sL L v q = L q := by rw [sL, setL_n h]
theorem sL_s {L : amL} {v w : Int64} : sL (sL L v) w = sL L w := by
  rw [sL, sL, setL_ss, setL_s, sL]
  congr 1
  funext j
  simp only [vp_updL]
  by_cases h : j = 0 <;> simp [h]
theorem sL_id {L : amL} : sL L (L 34 0) = L := by
  rw [sL]
  have : vp_updL (L 34) 0 (L 34 0) = L 34 := by funext j; simp only [vp_updL]; by_cases h : j = 0 <;> simp [h]
  rw [this, setL_id]
theorem sL_sw {L : amL} {v : Int64} {p : Nat} {f : Nat → Int64} (h : p ≠ 34) : setL (sL L v) p f = sL (setL L p f) v := by
  rw [sL, sL]
  funext q
  by_cases h1 : q = p
  · subst h1; rw [setL_s, setL_n h, setL_s]
  · rw [setL_n h1]
    by_cases h2 : q = 34
    · subst h2; rw [setL_s, setL_s, setL_n h1]
    · rw [setL_n h2, setL_n h2, setL_n h1]
def q_ovc (t m : Int64) : Bool := decide (¬ (0 : Int64) ≤ ((t ^^^ (t + m)) &&& (m ^^^ (t + m))))
def q_ovd (t m : Int64) : Bool := decide (¬ (0 : Int64) ≤ ((t ^^^ m) &&& (t ^^^ (t - m))))
def q_ovA (t m : Int64) (v : Int32) : Int32 := if q_ovc t m = true then 1 else v
def q_ovS (t m : Int64) (v : Int32) : Int32 := if q_ovd t m = true then 1 else v
def q_tl (a b : Int64) : Bool := !((decide (a = a.toInt32.toInt64) && decide (b = b.toInt32.toInt64)) || decide (b = 0)) && (if b = -1 then decide (a = -9223372036854775808) else decide (¬ (a * b) / b = a))
set_option maxRecDepth 100000 in
set_option maxHeartbeats 4000000 in
theorem b_X9_begin_0 {z : amZ} {post : amP} {G : amG} {I : amI} {L : amL} (hz : Go z cX9_begin RX9 1 none 0 0 0 post) (hG : Lay G)  (h : post none G (setI I 34 (upd (I 34) 1 (0 : Int32))) (setL L 34 (vp_updL (L 34) 0 (0 : Int64)))) : Wx z 0 0 0 [(0, .ref ((zB z).size + 34))] [] G I L := by
  have hz1 := hz.1
  refine am_aload_n hz1 dX9_begin_0 0 rfl rfl ?_
  refine am_lconst (v := 0) hz1 dX9_begin_1 (by decide) ?_
  refine am_putL hz1 fl_X9_7 (ln_34 hG) (lk_34 hG) rfl rfl (fun _ => rfl) dX9_begin_2 ?_
  refine am_aload_n hz1 dX9_begin_5 0 rfl rfl ?_
  refine am_iconst (v := 0) hz1 dX9_begin_6 (by decide) ?_
  refine am_putI hz1 fl_X9_13 (ln_34 hG) (lk_34 hG) rfl rfl (fun _ => rfl) dX9_begin_7 ?_
  exact am_return hz dX9_begin_10 h
set_option maxRecDepth 100000 in
set_option maxHeartbeats 4000000 in
theorem c_X9_begin {l : Launch} {D : va_G} {B : Heap} {G : amG} {I : amI} {L : amL}  (hG : Lay G)    : Fx l D B yX9_begin cX9_begin 1 none 0 [.ref (B.size + 34)] G I L none (sI I 0) (sL L 0) := by
  refine Mx.of (by decide) rfl rfl (fun z e1 e2 e3 hz => ?_)
  subst e1; subst e2; subst e3
  refine b_X9_begin_0 hz hG ?_
  exact ⟨rfl, rfl, rfl, rfl⟩
set_option maxRecDepth 100000 in
set_option maxHeartbeats 4000000 in
theorem b_X9_add_0 {z : amZ} {post : amP} {G : amG} {I : amI} {L : amL} (hz : Go z cX9_add RX9 5 none 0 0 0 post) (hG : Lay G) {v1 : Int64} (h : (((0 : Int64) ≤ (((L 34 0) ^^^ ((L 34 0) + v1)) &&& (v1 ^^^ ((L 34 0) + v1)))) → post none G I (setL L 34 (vp_updL (L 34) 0 ((L 34 0) + v1)))) ∧ ((¬ (0 : Int64) ≤ (((L 34 0) ^^^ ((L 34 0) + v1)) &&& (v1 ^^^ ((L 34 0) + v1)))) → post none G (setI I 34 (upd (I 34) 1 (1 : Int32))) (setL L 34 (vp_updL (L 34) 0 ((L 34 0) + v1))))) : Wx z 0 0 0 [(0, .ref ((zB z).size + 34)), (1, .long v1)] [] G I L := by
  have hz1 := hz.1
  refine am_aload_n hz1 dX9_add_0 0 rfl rfl ?_
  refine am_getL hz1 fl_X9_7 (ln_34 hG) (lk_34 hG) rfl dX9_add_1 ?_
  refine am_lload_n hz1 dX9_add_4 1 rfl rfl ?_
  refine am_ladd hz1 dX9_add_5 ?_
  refine am_lstore_n (lv' := [(3, .long ((L 34 0) + v1)), (0, .ref ((zB z).size + 34)), (1, .long v1)]) hz1 dX9_add_6 rfl rfl rfl ?_
  refine am_aload_n hz1 dX9_add_7 1 rfl rfl ?_
  refine am_getL hz1 fl_X9_7 (ln_34 hG) (lk_34 hG) rfl dX9_add_8 ?_
  refine am_lload_n hz1 dX9_add_11 0 rfl rfl ?_
  refine am_lxor hz1 dX9_add_12 ?_
  refine am_lload_n hz1 dX9_add_13 2 rfl rfl ?_
  refine am_lload_n hz1 dX9_add_14 0 rfl rfl ?_
  refine am_lxor hz1 dX9_add_15 ?_
  refine am_land hz1 dX9_add_16 ?_
  refine am_lconst (v := 0) hz1 dX9_add_17 (by decide) ?_
  refine am_lif_ge (tgt := 27) hz1 dX9_add_18 dX9_add_19 (by decide) (fun c1 => ?_) (fun c1 => ?_)
  · replace h := h.1 c1
    refine am_aload_n hz1 dX9_add_27 1 rfl rfl ?_
    refine am_lload_n hz1 dX9_add_28 0 rfl rfl ?_
    refine am_putL hz1 fl_X9_7 (ln_34 hG) (lk_34 hG) rfl rfl (fun _ => rfl) dX9_add_29 ?_
    exact am_return hz dX9_add_32 h
  · replace h := h.2 c1
    refine am_aload_n hz1 dX9_add_22 1 rfl rfl ?_
    refine am_iconst (v := 1) hz1 dX9_add_23 (by decide) ?_
    refine am_putI hz1 fl_X9_13 (ln_34 hG) (lk_34 hG) rfl rfl (fun _ => rfl) dX9_add_24 ?_
    refine am_aload_n hz1 dX9_add_27 1 rfl rfl ?_
    refine am_lload_n hz1 dX9_add_28 0 rfl rfl ?_
    refine am_putL hz1 fl_X9_7 (ln_34 hG) (lk_34 hG) rfl rfl (fun _ => rfl) dX9_add_29 ?_
    exact am_return hz dX9_add_32 h
set_option maxRecDepth 100000 in
set_option maxHeartbeats 4000000 in
theorem c_X9_add {l : Launch} {D : va_G} {B : Heap} {G : amG} {I : amI} {L : amL}  (hG : Lay G)  (v1 : Int64)  : Fx l D B yX9_add cX9_add 5 none 0 [.ref (B.size + 34), .long v1] G I L none (sI I (q_ovA (L 34 0) v1 (I 34 1))) (sL L (L 34 0 + v1)) := by
  refine Mx.of (by decide) rfl rfl (fun z e1 e2 e3 hz => ?_)
  subst e1; subst e2; subst e3
  refine b_X9_add_0 hz hG ?_
  refine ⟨fun h => ⟨rfl, rfl, ?_, rfl⟩, fun h => ⟨rfl, rfl, ?_, rfl⟩⟩
  · rw [q_ovA, if_neg (by simp only [q_ovc, decide_eq_true_eq]; exact not_not_intro h), sI_id]
  · rw [q_ovA, if_pos (by simp only [q_ovc, decide_eq_true_eq]; exact h)]; rfl
set_option maxRecDepth 100000 in
set_option maxHeartbeats 4000000 in
theorem b_X9_subtract_0 {z : amZ} {post : amP} {G : amG} {I : amI} {L : amL} (hz : Go z cX9_subtract RX9 5 none 0 0 0 post) (hG : Lay G) {v1 : Int64} (h : (((0 : Int64) ≤ (((L 34 0) ^^^ v1) &&& ((L 34 0) ^^^ ((L 34 0) - v1)))) → post none G I (setL L 34 (vp_updL (L 34) 0 ((L 34 0) - v1)))) ∧ ((¬ (0 : Int64) ≤ (((L 34 0) ^^^ v1) &&& ((L 34 0) ^^^ ((L 34 0) - v1)))) → post none G (setI I 34 (upd (I 34) 1 (1 : Int32))) (setL L 34 (vp_updL (L 34) 0 ((L 34 0) - v1))))) : Wx z 0 0 0 [(0, .ref ((zB z).size + 34)), (1, .long v1)] [] G I L := by
  have hz1 := hz.1
  refine am_aload_n hz1 dX9_subtract_0 0 rfl rfl ?_
  refine am_getL hz1 fl_X9_7 (ln_34 hG) (lk_34 hG) rfl dX9_subtract_1 ?_
  refine am_lload_n hz1 dX9_subtract_4 1 rfl rfl ?_
  refine am_lsub hz1 dX9_subtract_5 ?_
  refine am_lstore_n (lv' := [(3, .long ((L 34 0) - v1)), (0, .ref ((zB z).size + 34)), (1, .long v1)]) hz1 dX9_subtract_6 rfl rfl rfl ?_
  refine am_aload_n hz1 dX9_subtract_7 1 rfl rfl ?_
  refine am_getL hz1 fl_X9_7 (ln_34 hG) (lk_34 hG) rfl dX9_subtract_8 ?_
  refine am_lload_n hz1 dX9_subtract_11 2 rfl rfl ?_
  refine am_lxor hz1 dX9_subtract_12 ?_
  refine am_aload_n hz1 dX9_subtract_13 1 rfl rfl ?_
  refine am_getL hz1 fl_X9_7 (ln_34 hG) (lk_34 hG) rfl dX9_subtract_14 ?_
  refine am_lload_n hz1 dX9_subtract_17 0 rfl rfl ?_
  refine am_lxor hz1 dX9_subtract_18 ?_
  refine am_land hz1 dX9_subtract_19 ?_
  refine am_lconst (v := 0) hz1 dX9_subtract_20 (by decide) ?_
  refine am_lif_ge (tgt := 30) hz1 dX9_subtract_21 dX9_subtract_22 (by decide) (fun c1 => ?_) (fun c1 => ?_)
  · replace h := h.1 c1
    refine am_aload_n hz1 dX9_subtract_30 1 rfl rfl ?_
    refine am_lload_n hz1 dX9_subtract_31 0 rfl rfl ?_
    refine am_putL hz1 fl_X9_7 (ln_34 hG) (lk_34 hG) rfl rfl (fun _ => rfl) dX9_subtract_32 ?_
    exact am_return hz dX9_subtract_35 h
  · replace h := h.2 c1
    refine am_aload_n hz1 dX9_subtract_25 1 rfl rfl ?_
    refine am_iconst (v := 1) hz1 dX9_subtract_26 (by decide) ?_
    refine am_putI hz1 fl_X9_13 (ln_34 hG) (lk_34 hG) rfl rfl (fun _ => rfl) dX9_subtract_27 ?_
    refine am_aload_n hz1 dX9_subtract_30 1 rfl rfl ?_
    refine am_lload_n hz1 dX9_subtract_31 0 rfl rfl ?_
    refine am_putL hz1 fl_X9_7 (ln_34 hG) (lk_34 hG) rfl rfl (fun _ => rfl) dX9_subtract_32 ?_
    exact am_return hz dX9_subtract_35 h
set_option maxRecDepth 100000 in
set_option maxHeartbeats 4000000 in
theorem c_X9_subtract {l : Launch} {D : va_G} {B : Heap} {G : amG} {I : amI} {L : amL}  (hG : Lay G)  (v1 : Int64)  : Fx l D B yX9_subtract cX9_subtract 5 none 0 [.ref (B.size + 34), .long v1] G I L none (sI I (q_ovS (L 34 0) v1 (I 34 1))) (sL L (L 34 0 - v1)) := by
  refine Mx.of (by decide) rfl rfl (fun z e1 e2 e3 hz => ?_)
  subst e1; subst e2; subst e3
  refine b_X9_subtract_0 hz hG ?_
  refine ⟨fun h => ⟨rfl, rfl, ?_, rfl⟩, fun h => ⟨rfl, rfl, ?_, rfl⟩⟩
  · rw [q_ovS, if_neg (by simp only [q_ovd, decide_eq_true_eq]; exact not_not_intro h), sI_id]
  · rw [q_ovS, if_pos (by simp only [q_ovd, decide_eq_true_eq]; exact h)]; rfl
set_option maxRecDepth 100000 in
set_option maxHeartbeats 4000000 in
theorem b_X9_isTooLarge_0 {z : amZ} {post : amP} {G : amG} {I : amI} {L : amL} (hz : Go z cX9_isTooLarge RX9 4 (some .boolean) 0 0 0 post) (hG : Lay G) {v0 : Int64} {v2 : Int64} (h : ((¬ v0 = v0.toInt32.toInt64) → Wx z 0 0 16 [(0, .long v0), (2, .long v2)] [] G I L) ∧ ((v0 = v0.toInt32.toInt64) → ((v2 = v2.toInt32.toInt64) → post (some (.int 0)) G I L) ∧ ((¬ v2 = v2.toInt32.toInt64) → Wx z 0 0 16 [(0, .long v0), (2, .long v2)] [] G I L))) : Wx z 0 0 0 [(0, .long v0), (2, .long v2)] [] G I L := by
  have hz1 := hz.1
  refine am_lload_n hz1 dX9_isTooLarge_0 0 rfl rfl ?_
  refine am_lload_n hz1 dX9_isTooLarge_1 0 rfl rfl ?_
  refine am_l2i hz1 dX9_isTooLarge_2 ?_
  refine am_i2l hz1 dX9_isTooLarge_3 ?_
  refine am_lif_ne (tgt := 16) hz1 dX9_isTooLarge_4 dX9_isTooLarge_5 (by decide) (fun c1 => ?_) (fun c1 => ?_)
  · replace h := h.1 c1
    exact h
  · replace h := h.2 c1
    refine am_lload_n hz1 dX9_isTooLarge_8 1 rfl rfl ?_
    refine am_lload_n hz1 dX9_isTooLarge_9 1 rfl rfl ?_
    refine am_l2i hz1 dX9_isTooLarge_10 ?_
    refine am_i2l hz1 dX9_isTooLarge_11 ?_
    refine am_lif_eq (tgt := 22) hz1 dX9_isTooLarge_12 dX9_isTooLarge_13 (by decide) (fun c2 => ?_) (fun c2 => ?_)
    · replace h := h.1 c2
      refine am_iconst (v := 0) hz1 dX9_isTooLarge_22 (by decide) ?_
      exact am_zreturn hz (by decide) dX9_isTooLarge_23 h
    · replace h := h.2 c2
      exact h
set_option maxRecDepth 100000 in
set_option maxHeartbeats 4000000 in
theorem b_X9_isTooLarge_16 {z : amZ} {post : amP} {G : amG} {I : amI} {L : amL} (hz : Go z cX9_isTooLarge RX9 4 (some .boolean) 0 0 0 post) (hG : Lay G) {v0 : Int64} {v2 : Int64} (h : ((¬ v2 = (0 : Int64)) → ((¬ v2 = (-1 : Int64)) → ¬ v2 = 0 ∧ ((((v0 * v2) / v2) = v0) → post (some (.int 0)) G I L) ∧ ((¬ ((v0 * v2) / v2) = v0) → post (some (.int 1)) G I L)) ∧ ((v2 = (-1 : Int64)) → ((¬ v0 = (-9223372036854775808 : Int64)) → post (some (.int 0)) G I L) ∧ ((v0 = (-9223372036854775808 : Int64)) → post (some (.int 1)) G I L))) ∧ ((v2 = (0 : Int64)) → post (some (.int 0)) G I L)) : Wx z 0 0 16 [(0, .long v0), (2, .long v2)] [] G I L := by
  have hz1 := hz.1
  refine am_lload_n hz1 dX9_isTooLarge_16 1 rfl rfl ?_
  refine am_lconst (v := 0) hz1 dX9_isTooLarge_17 (by decide) ?_
  refine am_lif_ne (tgt := 24) hz1 dX9_isTooLarge_18 dX9_isTooLarge_19 (by decide) (fun c1 => ?_) (fun c1 => ?_)
  · replace h := h.1 c1
    refine am_lload_n hz1 dX9_isTooLarge_24 1 rfl rfl ?_
    refine am_ldc2 hz1 kc_X9_25 dX9_isTooLarge_25 ?_
    refine am_lif_ne (tgt := 46) hz1 dX9_isTooLarge_28 dX9_isTooLarge_29 (by decide) (fun c2 => ?_) (fun c2 => ?_)
    · replace h := h.1 c2
      refine am_lload_n hz1 dX9_isTooLarge_46 0 rfl rfl ?_
      refine am_lload_n hz1 dX9_isTooLarge_47 1 rfl rfl ?_
      refine am_lmul hz1 dX9_isTooLarge_48 ?_
      refine am_lload_n hz1 dX9_isTooLarge_49 1 rfl rfl ?_
      obtain ⟨g3, h⟩ := h
      refine am_ldiv hz1 dX9_isTooLarge_50 g3 ?_
      refine am_lload_n hz1 dX9_isTooLarge_51 0 rfl rfl ?_
      refine am_lif_eq (tgt := 60) hz1 dX9_isTooLarge_52 dX9_isTooLarge_53 (by decide) (fun c4 => ?_) (fun c4 => ?_)
      · replace h := h.1 c4
        refine am_iconst (v := 0) hz1 dX9_isTooLarge_60 (by decide) ?_
        exact am_zreturn hz (by decide) dX9_isTooLarge_61 h
      · replace h := h.2 c4
        refine am_iconst (v := 1) hz1 dX9_isTooLarge_56 (by decide) ?_
        refine am_goto (tgt := 61) hz1 dX9_isTooLarge_57 (by decide) ?_
        exact am_zreturn hz (by decide) dX9_isTooLarge_61 h
    · replace h := h.2 c2
      refine am_lload_n hz1 dX9_isTooLarge_32 0 rfl rfl ?_
      refine am_ldc2 hz1 kc_X9_29 dX9_isTooLarge_33 ?_
      refine am_lif_ne (tgt := 44) hz1 dX9_isTooLarge_36 dX9_isTooLarge_37 (by decide) (fun c5 => ?_) (fun c5 => ?_)
      · replace h := h.1 c5
        refine am_iconst (v := 0) hz1 dX9_isTooLarge_44 (by decide) ?_
        exact am_zreturn hz (by decide) dX9_isTooLarge_45 h
      · replace h := h.2 c5
        refine am_iconst (v := 1) hz1 dX9_isTooLarge_40 (by decide) ?_
        refine am_goto (tgt := 45) hz1 dX9_isTooLarge_41 (by decide) ?_
        exact am_zreturn hz (by decide) dX9_isTooLarge_45 h
  · replace h := h.2 c1
    refine am_iconst (v := 0) hz1 dX9_isTooLarge_22 (by decide) ?_
    exact am_zreturn hz (by decide) dX9_isTooLarge_23 h
set_option maxRecDepth 100000 in
set_option maxHeartbeats 4000000 in
theorem c_X9_isTooLarge {l : Launch} {D : va_G} {B : Heap} {G : amG} {I : amI} {L : amL}  (hG : Lay G)  (v0 : Int64) (v2 : Int64)  : Fx l D B yX9_isTooLarge cX9_isTooLarge 4 (some .boolean) 0 [.long v0, .long v2] G I L (some (.int (bI (q_tl v0 v2)))) I L := by
  refine Mx.of (by decide) rfl rfl (fun z e1 e2 e3 hz => ?_)
  subst e1; subst e2; subst e3
  refine b_X9_isTooLarge_0 hz hG ?_
  have rest : ¬ (v0 = v0.toInt32.toInt64 ∧ v2 = v2.toInt32.toInt64) → Wx z 0 0 16 [(0, .long v0), (2, .long v2)] [] G I L := by
    intro hn
    have e1 : (decide (v0 = v0.toInt32.toInt64) && decide (v2 = v2.toInt32.toInt64)) = false := by
      by_cases h1 : v0 = v0.toInt32.toInt64
      · rw [decide_eq_false (fun h2 => hn ⟨h1, h2⟩), Bool.and_false]
      · rw [decide_eq_false h1, Bool.false_and]
    refine b_X9_isTooLarge_16 hz hG ⟨fun h => ⟨fun h2 => ⟨h, fun h3 => ⟨?_, rfl, rfl, rfl⟩, fun h3 => ⟨?_, rfl, rfl, rfl⟩⟩, fun h2 => ⟨fun h3 => ⟨?_, rfl, rfl, rfl⟩, fun h3 => ⟨?_, rfl, rfl, rfl⟩⟩⟩, fun h => ⟨?_, rfl, rfl, rfl⟩⟩
    · rw [show q_tl v0 v2 = false by rw [q_tl, e1, decide_eq_false h, if_neg h2, decide_eq_false (not_not_intro h3)]; rfl]; rfl
    · rw [show q_tl v0 v2 = true by rw [q_tl, e1, decide_eq_false h, if_neg h2, decide_eq_true h3]; rfl]; rfl
    · rw [show q_tl v0 v2 = false by rw [q_tl, e1, decide_eq_false h, if_pos h2, decide_eq_false h3]; rfl]; rfl
    · rw [show q_tl v0 v2 = true by rw [q_tl, e1, decide_eq_false h, if_pos h2, decide_eq_true h3]; rfl]; rfl
    · rw [show q_tl v0 v2 = false by rw [q_tl, e1, decide_eq_true h]; rfl]; rfl
  refine ⟨fun h => rest (fun g => h g.1), fun h => ⟨fun h2 => ⟨?_, rfl, rfl, rfl⟩, fun h2 => rest (fun g => h2 g.2)⟩⟩
  rw [show q_tl v0 v2 = false by rw [q_tl, decide_eq_true h, decide_eq_true h2]; rfl]; rfl
set_option maxRecDepth 100000 in
set_option maxHeartbeats 4000000 in
theorem b_X9_addProduct_0 {z : amZ} {post : amP} {G : amG} {I : amI} {L : amL} (hz : Go z cX9_addProduct RX9 5 none 1 0 0 post) (hG : Lay G) {v1 : Int64} {v3 : Int64} (h : ((q_tl v1 v3 = false) → post none G (sI I (q_ovA (L 34 0) (v1 * v3) (I 34 1))) (sL L (L 34 0 + (v1 * v3)))) ∧ ((q_tl v1 v3 = true) → post none G (sI (setI I 34 (upd (I 34) 1 (1 : Int32))) (q_ovA (L 34 0) (v1 * v3) ((setI I 34 (upd (I 34) 1 (1 : Int32))) 34 1))) (sL L (L 34 0 + (v1 * v3))))) : Wx z 0 0 0 [(0, .ref ((zB z).size + 34)), (1, .long v1), (3, .long v3)] [] G I L := by
  have hz1 := hz.1
  refine am_lload_n hz1 dX9_addProduct_0 1 rfl rfl ?_
  refine am_lload_n hz1 dX9_addProduct_1 2 rfl rfl ?_
  refine am_cSf hz ct_X9_17 [.long v1, .long v3] [] (c_X9_isTooLarge hG v1 v3 ) rfl rfl rfl ⟨Nat.le_refl _, Nat.le_refl _⟩ (Nat.le_of_ble_eq_true rfl) dX9_addProduct_2 ?_
  refine am_ifb_eq (tgt := 13) hz1 dX9_addProduct_5 (by decide) (fun c1 => ?_) (fun c1 => ?_)
  · replace h := h.1 c1
    refine am_aload_n hz1 dX9_addProduct_13 0 rfl rfl ?_
    refine am_lload_n hz1 dX9_addProduct_14 1 rfl rfl ?_
    refine am_lload_n hz1 dX9_addProduct_15 2 rfl rfl ?_
    refine am_lmul hz1 dX9_addProduct_16 ?_
    refine am_cVf hz cv_X9_21 [.long (v1 * v3)] [] (c_X9_add hG (v1 * v3) ) (ln_34 hG) (lk_34 hG) rfl rfl rfl ⟨Nat.le_refl _, Nat.le_refl _⟩ (Nat.le_of_ble_eq_true rfl) dX9_addProduct_17 ?_
    exact am_return hz dX9_addProduct_20 h
  · replace h := h.2 c1
    refine am_aload_n hz1 dX9_addProduct_8 0 rfl rfl ?_
    refine am_iconst (v := 1) hz1 dX9_addProduct_9 (by decide) ?_
    refine am_putI hz1 fl_X9_13 (ln_34 hG) (lk_34 hG) rfl rfl (fun _ => rfl) dX9_addProduct_10 ?_
    refine am_aload_n hz1 dX9_addProduct_13 0 rfl rfl ?_
    refine am_lload_n hz1 dX9_addProduct_14 1 rfl rfl ?_
    refine am_lload_n hz1 dX9_addProduct_15 2 rfl rfl ?_
    refine am_lmul hz1 dX9_addProduct_16 ?_
    refine am_cVf hz cv_X9_21 [.long (v1 * v3)] [] (c_X9_add hG (v1 * v3) ) (ln_34 hG) (lk_34 hG) rfl rfl rfl ⟨Nat.le_refl _, Nat.le_refl _⟩ (Nat.le_of_ble_eq_true rfl) dX9_addProduct_17 ?_
    exact am_return hz dX9_addProduct_20 h
set_option maxRecDepth 100000 in
set_option maxHeartbeats 4000000 in
theorem c_X9_addProduct {l : Launch} {D : va_G} {B : Heap} {G : amG} {I : amI} {L : amL}  (hG : Lay G)  (v1 : Int64) (v3 : Int64)  : Fx l D B yX9_addProduct cX9_addProduct 5 none 1 [.ref (B.size + 34), .long v1, .long v3] G I L none (sI I (q_ovA (L 34 0) (v1 * v3) (if q_tl v1 v3 = true then 1 else I 34 1))) (sL L (L 34 0 + v1 * v3)) := by
  refine Mx.of (by decide) rfl rfl (fun z e1 e2 e3 hz => ?_)
  subst e1; subst e2; subst e3
  refine b_X9_addProduct_0 hz hG ?_
  refine ⟨fun h => ⟨rfl, rfl, ?_, rfl⟩, fun h => ⟨rfl, rfl, ?_, rfl⟩⟩
  · rw [if_neg (by rw [h]; decide)]
  · rw [if_pos h]
    show sI (sI I 1) (q_ovA (L 34 0) (v1 * v3) (sI I 1 34 1)) = _
    rw [sI_s, sI_v]
/-! sums of products, by steps: the sum, and whether anything went beyond -/
def tS (f g : Nat → Int64) (s : Int32) : Nat → Int64
  | 0 => 0
  | i + 1 => if bt s i = true then tS f g s i + f i * g i else tS f g s i
def oS (f g : Nat → Int64) (s : Int32) : Nat → Bool
  | 0 => false
  | i + 1 => oS f g s i || (bt s i && (q_tl (f i) (g i) || q_ovc (tS f g s i) (f i * g i)))
def orN (p : Nat → Bool) : Nat → Bool
  | 0 => false
  | i + 1 => orN p i || p i
theorem orN_c {p q : Nat → Bool} : ∀ {n : Nat}, (∀ i, i < n → p i = q i) → orN p n = orN q n
  | 0, _ => rfl
  | n + 1, h => by rw [orN, orN, orN_c (fun i hi => h i (by omega)), h n (by omega)]
theorem orN_t {p : Nat → Bool} : ∀ {n : Nat}, orN p n = true ↔ ∃ i, i < n ∧ p i = true
  | 0 => ⟨fun h => absurd h Bool.false_ne_true, fun ⟨i, hi, _⟩ => absurd hi (Nat.not_lt_zero _)⟩
  | n + 1 => by
    rw [orN, Bool.or_eq_true, orN_t]
    constructor
    · rintro (⟨i, hi, h⟩ | h)
      · exact ⟨i, by omega, h⟩
      · exact ⟨n, by omega, h⟩
    · rintro ⟨i, hi, h⟩
      by_cases e : i = n
      · subst e; exact Or.inr h
      · exact Or.inl ⟨i, by omega, h⟩
theorem tS_c {f g f' g' : Nat → Int64} {s : Int32} : ∀ {n : Nat}, (∀ i, i < n → bt s i = true → f i = f' i ∧ g i = g' i) → tS f g s n = tS f' g' s n
  | 0, _ => rfl
  | n + 1, h => by
    rw [tS, tS, tS_c (fun i hi => h i (by omega))]
    by_cases e : bt s n = true
    · rw [if_pos e, if_pos e, (h n (by omega) e).1, (h n (by omega) e).2]
    · rw [if_neg e, if_neg e]
theorem oS_c {f g f' g' : Nat → Int64} {s : Int32} : ∀ {n : Nat}, (∀ i, i < n → bt s i = true → f i = f' i ∧ g i = g' i) → oS f g s n = oS f' g' s n
  | 0, _ => rfl
  | n + 1, h => by
    rw [oS, oS, oS_c (fun i hi => h i (by omega)), tS_c (fun i hi => h i (by omega))]
    by_cases e : bt s n = true
    · rw [e, (h n (by omega) e).1, (h n (by omega) e).2]
    · rw [Bool.not_eq_true] at e; rw [e, Bool.false_and, Bool.false_and]
theorem ov_b {t m : Int64} {b c : Bool} : q_ovA t m (if c = true then 1 else bI b) = bI (b || (c || q_ovc t m)) := by
  rw [q_ovA]
  cases c <;> cases b <;> cases q_ovc t m <;> rfl
theorem ovA_b {t m : Int64} {b : Bool} : q_ovA t m (bI b) = bI (b || q_ovc t m) := by
  rw [q_ovA]
  cases b <;> cases q_ovc t m <;> rfl
theorem ovS_b {t m : Int64} {b : Bool} : q_ovS t m (bI b) = bI (b || q_ovd t m) := by
  rw [q_ovS]
  cases b <;> cases q_ovd t m <;> rfl
theorem ovc_0 (m : Int64) : q_ovc 0 m = false := by
  rw [q_ovc]
  have : ((0 : Int64) ^^^ (0 + m)) &&& (m ^^^ (0 + m)) = 0 := by
    rw [Int64.zero_add, Int64.xor_self, Int64.and_zero]
  rw [this]
  decide
