/-! CONSTRUCTORS -/
set_option maxRecDepth 100000 in
set_option maxHeartbeats 4000000 in
theorem b_fillN_0 {z : amZ} {post : amP} {G : amG} {I : amI} {L : amL} (hz : Go z cJ7_fill_53178 RJ7 4 none 0 0 0 post)  {n0 : Nat} {p0 : Nat} (hn_p0 : p0 < gN G) (hk_p0 : gK G p0 = 50) (hl_p0 : gL G p0 = n0) {v1 : Int32} (h : Wx z 0 0 5 [(0, .ref ((zB z).size + p0)), (1, .int v1), (2, .int 0), (3, .int (Int32.ofNat n0))] [] G I L) : Wx z 0 0 0 [(0, .ref ((zB z).size + p0)), (1, .int v1)] [] G I L := by
  have hz1 := hz.1
  refine am_iconst (v := 0) hz1 dJ7_fill_53178_0 (by decide) ?_
  refine am_istore_n (lv' := [(2, .int 0), (0, .ref ((zB z).size + p0)), (1, .int v1)]) hz1 dJ7_fill_53178_1 rfl rfl rfl ?_
  refine am_aload_n hz1 dJ7_fill_53178_2 1 rfl rfl ?_
  refine am_alenI hz1 hn_p0 hk_p0 dJ7_fill_53178_3 ?_
  rw [hl_p0]
  refine am_istore_n (lv' := [(3, .int (Int32.ofNat n0)), (2, .int 0), (0, .ref ((zB z).size + p0)), (1, .int v1)]) hz1 dJ7_fill_53178_4 rfl rfl rfl ?_
  exact am_sub (lv' := [(0, .ref ((zB z).size + p0)), (1, .int v1), (2, .int 0), (3, .int (Int32.ofNat n0))]) [2, 3, 1, 0] rfl h
set_option maxRecDepth 100000 in
set_option maxHeartbeats 4000000 in
theorem b_fillN_5 {z : amZ} {post : amP} {G : amG} {I : amI} {L : amL} (hz : Go z cJ7_fill_53178 RJ7 4 none 0 0 0 post)  {n0 : Nat} {p0 : Nat} (hn_p0 : p0 < gN G) (hk_p0 : gK G p0 = 50) (hl_p0 : gL G p0 = n0) {v1 : Int32} {v2 : Int32} {v3 : Int32} (h : ((v3 ≤ v2) → post none G I L) ∧ ((¬ v3 ≤ v2) → vp_in v2 n0 ∧ Wx z 0 0 5 [(0, .ref ((zB z).size + p0)), (1, .int v1), (2, .int (v2 + 1)), (3, .int v3)] [] G (setI I p0 (upd (I p0) v2.toNatClampNeg v1)) L)) : Wx z 0 0 5 [(0, .ref ((zB z).size + p0)), (1, .int v1), (2, .int v2), (3, .int v3)] [] G I L := by
  have hz1 := hz.1
  refine am_iload_n hz1 dJ7_fill_53178_5 2 rfl rfl ?_
  refine am_iload_n hz1 dJ7_fill_53178_6 3 rfl rfl ?_
  refine am_icmp_ge (tgt := 20) hz1 dJ7_fill_53178_7 (by decide) (fun c1 => ?_) (fun c1 => ?_)
  · replace h := h.1 c1
    exact am_return hz dJ7_fill_53178_20 h
  · replace h := h.2 c1
    refine am_aload_n hz1 dJ7_fill_53178_10 0 rfl rfl ?_
    refine am_iload_n hz1 dJ7_fill_53178_11 2 rfl rfl ?_
    refine am_iload_n hz1 dJ7_fill_53178_12 1 rfl rfl ?_
    obtain ⟨g2, h⟩ := h
    refine am_iast hz1 hn_p0 hk_p0 (by rw [hl_p0]; exact g2) dJ7_fill_53178_13 ?_
    refine am_iinc (v := v2 + 1) (lv' := [(2, .int (v2 + 1)), (0, .ref ((zB z).size + p0)), (1, .int v1), (3, .int v3)]) hz1 dJ7_fill_53178_14 2 rfl rfl rfl rfl ?_
    refine am_goto (tgt := 5) hz1 dJ7_fill_53178_17 (by decide) ?_
    exact am_sub (lv' := [(0, .ref ((zB z).size + p0)), (1, .int v1), (2, .int (v2 + 1)), (3, .int v3)]) [1, 2, 0, 3] rfl h
set_option maxRecDepth 100000 in
set_option maxHeartbeats 4000000 in
theorem c_fillN {l : Launch} {D : va_G} {B : Heap} {G : amG} {I : amI} {L : amL} {p0 : Nat} {n0 : Nat}  (hn_p0 : p0 < gN G) (hk_p0 : gK G p0 = 50) (hl_p0 : gL G p0 = n0) (v1 : Int32)  (ha : n0 < 2147483648) : Fx l D B yJ7_fill_53178 cJ7_fill_53178 4 none 0 [.ref (B.size + p0), .int v1] G I L none (setI I p0 (q_fill (I p0) n0 v1)) L := by
  refine Mx.of (by decide) rfl rfl (fun z e1 e2 e3 hz => ?_)
  subst e1; subst e2; subst e3
  refine b_fillN_0 hz hn_p0 hk_p0 hl_p0 ?_
  have key : ∀ i, i ≤ n0 → Wx z 0 0 5 [(0, .ref ((zB z).size + p0)), (1, .int v1), (2, .int (nI i)), (3, .int (nI n0))] [] G (setI I p0 (q_fill (I p0) i v1)) L := by
    intro i hi
    refine for_up (P := fun i => Wx z 0 0 5 [(0, .ref ((zB z).size + p0)), (1, .int v1), (2, .int (nI i)), (3, .int (nI n0))] [] G (setI I p0 (q_fill (I p0) i v1)) L) ?_ ?_ hi
    · exact b_fillN_5 hz hn_p0 hk_p0 hl_p0 ⟨fun _ => ⟨rfl, rfl, rfl, rfl⟩, fun h => absurd (nI_le (Nat.le_refl _) ha) h⟩
    · intro i hi ih
      refine b_fillN_5 hz hn_p0 hk_p0 hl_p0 ⟨fun h => absurd h (nI_ge hi ha), fun _ => ⟨in_nI hi ha, ?_⟩⟩
      rw [nI_1, setI_ss, setI_s, cl_nI (by omega), fill_s]
      exact ih
  have h0 := key 0 (Nat.zero_le _)
  rw [fill_0, setI_id] at h0
  exact h0
def gX8 (G : amG) (p : Nat) : amG := (gArr (gArr (gArr (gArr G p 2 50 16) p 3 52 1024) p 4 52 16) p 5 50 16)
def iX8 (G : amG) (I : amI) (p : Nat) : amI := (zI (zI (zI (zI I (gN G)) (gN G + 1)) (gN G + 2)) (gN G + 3))
def lX8 (G : amG) (L : amL) : amL := (zL0 (zL0 (zL0 (zL0 L (gN G)) (gN G + 1)) (gN G + 2)) (gN G + 3))
set_option maxRecDepth 100000 in
set_option maxHeartbeats 4000000 in
theorem c_X8_init {l : Launch} {D : va_G} {B : Heap} {G : amG} {I : amI} {L : amL} {p : Nat} (hp : p < gN G) (hk : gK G p = 8) : Mx l D B yX8_init cX8_init 1 none 1 4 1072 [.ref (B.size + p)] G I L (fun r G1 I1 L1 => r = none ∧ G1 = gX8 G p ∧ I1 = iX8 G I p ∧ L1 = lX8 G L) := by
  refine Mx.ofI (by decide) rfl rfl (fun z e1 e2 e3 hin2 hz => ?_)
  subst e1; subst e2; subst e3
  have hz1 := hz.1
  refine am_aload_n hz1 dX8_init_0 0 rfl rfl ?_
  refine am_oinit hz1 (tt_of 705 (by decide +kernel) rfl) oi_m (tt_of 179 (by decide +kernel) rfl) (hz.fr (d := 0) rfl) (Nat.le_trans (Nat.le_of_ble_eq_true rfl) (hz.lo (d := 0) rfl)) dX8_init_1 ?_
  refine am_aload_n hz1 dX8_init_4 0 rfl rfl ?_
  refine am_bipush (v := 16) hz1 dX8_init_5 (by decide) ?_
  refine am_mkI (len := 16) hz1 hin2 cls_X8 (k := 2) (by decide) (tt_of 708 (by decide +kernel) rfl) rfl rfl hp hk (fun _ => rfl) (fun _ => rfl) (fun _ _ _ => rfl) (by decide) (by decide) (by decide) (by rw [hz.2.1]; exact Nat.le_of_ble_eq_true rfl) (by rw [hz.2.1]; exact Nat.le_of_ble_eq_true rfl) dX8_init_7 dX8_init_9 ?_
  have hn1 := gArr_n (p := p) (k := 2) (kd := 50) (len := 16) hp
  have hk1 := (gArr_k (p := p) (k := 2) (kd := 50) (len := 16) hp).trans hk
  refine am_aload_n hz1 dX8_init_12 0 rfl rfl ?_
  refine am_sipush (v := 1024) hz1 dX8_init_13 (by decide) ?_
  refine am_mkL (len := 1024) hz1 hin2 cls_X8 (k := 3) (by decide) (tt_of 710 (by decide +kernel) rfl) rfl rfl hn1 hk1 (fun _ => rfl) (fun _ => rfl) (fun _ _ _ => rfl) (by decide) (by decide) (by decide) (by rw [hz.2.1]; exact Nat.le_of_ble_eq_true rfl) (by rw [hz.2.1]; exact Nat.le_of_ble_eq_true rfl) dX8_init_16 dX8_init_18 ?_
  have hn2 := gArr_n (p := p) (k := 3) (kd := 52) (len := 1024) hn1
  have hk2 := (gArr_k (p := p) (k := 3) (kd := 52) (len := 1024) hn1).trans hk1
  refine am_aload_n hz1 dX8_init_21 0 rfl rfl ?_
  refine am_bipush (v := 16) hz1 dX8_init_22 (by decide) ?_
  refine am_mkL (len := 16) hz1 hin2 cls_X8 (k := 4) (by decide) (tt_of 712 (by decide +kernel) rfl) rfl rfl hn2 hk2 (fun _ => rfl) (fun _ => rfl) (fun _ _ _ => rfl) (by decide) (by decide) (by decide) (by rw [hz.2.1]; exact Nat.le_of_ble_eq_true rfl) (by rw [hz.2.1]; exact Nat.le_of_ble_eq_true rfl) dX8_init_24 dX8_init_26 ?_
  have hn3 := gArr_n (p := p) (k := 4) (kd := 52) (len := 16) hn2
  have hk3 := (gArr_k (p := p) (k := 4) (kd := 52) (len := 16) hn2).trans hk2
  refine am_aload_n hz1 dX8_init_29 0 rfl rfl ?_
  refine am_bipush (v := 16) hz1 dX8_init_30 (by decide) ?_
  refine am_mkI (len := 16) hz1 hin2 cls_X8 (k := 5) (by decide) (tt_of 714 (by decide +kernel) rfl) rfl rfl hn3 hk3 (fun _ => rfl) (fun _ => rfl) (fun _ _ _ => rfl) (by decide) (by decide) (by decide) (by rw [hz.2.1]; exact Nat.le_of_ble_eq_true rfl) (by rw [hz.2.1]; exact Nat.le_of_ble_eq_true rfl) dX8_init_32 dX8_init_34 ?_
  have hn4 := gArr_n (p := p) (k := 5) (kd := 50) (len := 16) hn3
  have hk4 := (gArr_k (p := p) (k := 5) (kd := 50) (len := 16) hn3).trans hk3
  exact am_return hz dX8_init_37 ⟨rfl, rfl, rfl, rfl⟩
def gX4 (G : amG) (p : Nat) : amG := (gArr (gArr (gArr (gArr (gArr (gArr G p 1 50 16) p 2 50 16) p 3 50 16) p 4 50 16) p 5 50 16) p 6 50 16)
def iX4 (G : amG) (I : amI) (p : Nat) : amI := (zI (zI (zI (zI (zI (zI (setI I p (upd (I p) 0 1)) (gN G)) (gN G + 1)) (gN G + 2)) (gN G + 3)) (gN G + 4)) (gN G + 5))
def lX4 (G : amG) (L : amL) : amL := (zL0 (zL0 (zL0 (zL0 (zL0 (zL0 L (gN G)) (gN G + 1)) (gN G + 2)) (gN G + 3)) (gN G + 4)) (gN G + 5))
set_option maxRecDepth 100000 in
set_option maxHeartbeats 4000000 in
theorem c_X4_init {l : Launch} {D : va_G} {B : Heap} {G : amG} {I : amI} {L : amL} {p : Nat} (hp : p < gN G) (hk : gK G p = 4) : Mx l D B yX4_init cX4_init 1 none 1 6 96 [.ref (B.size + p)] G I L (fun r G1 I1 L1 => r = none ∧ G1 = gX4 G p ∧ I1 = iX4 G I p ∧ L1 = lX4 G L) := by
  refine Mx.ofI (by decide) rfl rfl (fun z e1 e2 e3 hin2 hz => ?_)
  subst e1; subst e2; subst e3
  have hz1 := hz.1
  refine am_aload_n hz1 dX4_init_0 0 rfl rfl ?_
  refine am_oinit hz1 (tt_of 201 (by decide +kernel) rfl) oi_m (tt_of 179 (by decide +kernel) rfl) (hz.fr (d := 0) rfl) (Nat.le_trans (Nat.le_of_ble_eq_true rfl) (hz.lo (d := 0) rfl)) dX4_init_1 ?_
  refine am_aload_n hz1 dX4_init_4 0 rfl rfl ?_
  refine am_iconst (v := 1) hz1 dX4_init_5 (by decide) ?_
  refine am_putI hz1 fl_X4_9 hp hk rfl rfl (fun _ => rfl) dX4_init_6 ?_
  refine am_aload_n hz1 dX4_init_9 0 rfl rfl ?_
  refine am_bipush (v := 16) hz1 dX4_init_10 (by decide) ?_
  refine am_mkI (len := 16) hz1 hin2 cls_X4 (k := 1) (by decide) (tt_of 209 (by decide +kernel) rfl) rfl rfl hp hk (fun _ => rfl) (fun _ => rfl) (fun _ _ _ => rfl) (by decide) (by decide) (by decide) (by rw [hz.2.1]; exact Nat.le_of_ble_eq_true rfl) (by rw [hz.2.1]; exact Nat.le_of_ble_eq_true rfl) dX4_init_12 dX4_init_14 ?_
  have hn1 := gArr_n (p := p) (k := 1) (kd := 50) (len := 16) hp
  have hk1 := (gArr_k (p := p) (k := 1) (kd := 50) (len := 16) hp).trans hk
  refine am_aload_n hz1 dX4_init_17 0 rfl rfl ?_
  refine am_bipush (v := 16) hz1 dX4_init_18 (by decide) ?_
  refine am_mkI (len := 16) hz1 hin2 cls_X4 (k := 2) (by decide) (tt_of 215 (by decide +kernel) rfl) rfl rfl hn1 hk1 (fun _ => rfl) (fun _ => rfl) (fun _ _ _ => rfl) (by decide) (by decide) (by decide) (by rw [hz.2.1]; exact Nat.le_of_ble_eq_true rfl) (by rw [hz.2.1]; exact Nat.le_of_ble_eq_true rfl) dX4_init_20 dX4_init_22 ?_
  have hn2 := gArr_n (p := p) (k := 2) (kd := 50) (len := 16) hn1
  have hk2 := (gArr_k (p := p) (k := 2) (kd := 50) (len := 16) hn1).trans hk1
  refine am_aload_n hz1 dX4_init_25 0 rfl rfl ?_
  refine am_bipush (v := 16) hz1 dX4_init_26 (by decide) ?_
  refine am_mkI (len := 16) hz1 hin2 cls_X4 (k := 3) (by decide) (tt_of 220 (by decide +kernel) rfl) rfl rfl hn2 hk2 (fun _ => rfl) (fun _ => rfl) (fun _ _ _ => rfl) (by decide) (by decide) (by decide) (by rw [hz.2.1]; exact Nat.le_of_ble_eq_true rfl) (by rw [hz.2.1]; exact Nat.le_of_ble_eq_true rfl) dX4_init_28 dX4_init_30 ?_
  have hn3 := gArr_n (p := p) (k := 3) (kd := 50) (len := 16) hn2
  have hk3 := (gArr_k (p := p) (k := 3) (kd := 50) (len := 16) hn2).trans hk2
  refine am_aload_n hz1 dX4_init_33 0 rfl rfl ?_
  refine am_bipush (v := 16) hz1 dX4_init_34 (by decide) ?_
  refine am_mkI (len := 16) hz1 hin2 cls_X4 (k := 4) (by decide) (tt_of 224 (by decide +kernel) rfl) rfl rfl hn3 hk3 (fun _ => rfl) (fun _ => rfl) (fun _ _ _ => rfl) (by decide) (by decide) (by decide) (by rw [hz.2.1]; exact Nat.le_of_ble_eq_true rfl) (by rw [hz.2.1]; exact Nat.le_of_ble_eq_true rfl) dX4_init_36 dX4_init_38 ?_
  have hn4 := gArr_n (p := p) (k := 4) (kd := 50) (len := 16) hn3
  have hk4 := (gArr_k (p := p) (k := 4) (kd := 50) (len := 16) hn3).trans hk3
  refine am_aload_n hz1 dX4_init_41 0 rfl rfl ?_
  refine am_bipush (v := 16) hz1 dX4_init_42 (by decide) ?_
  refine am_mkI (len := 16) hz1 hin2 cls_X4 (k := 5) (by decide) (tt_of 226 (by decide +kernel) rfl) rfl rfl hn4 hk4 (fun _ => rfl) (fun _ => rfl) (fun _ _ _ => rfl) (by decide) (by decide) (by decide) (by rw [hz.2.1]; exact Nat.le_of_ble_eq_true rfl) (by rw [hz.2.1]; exact Nat.le_of_ble_eq_true rfl) dX4_init_44 dX4_init_46 ?_
  have hn5 := gArr_n (p := p) (k := 5) (kd := 50) (len := 16) hn4
  have hk5 := (gArr_k (p := p) (k := 5) (kd := 50) (len := 16) hn4).trans hk4
  refine am_aload_n hz1 dX4_init_49 0 rfl rfl ?_
  refine am_bipush (v := 16) hz1 dX4_init_50 (by decide) ?_
  refine am_mkI (len := 16) hz1 hin2 cls_X4 (k := 6) (by decide) (tt_of 228 (by decide +kernel) rfl) rfl rfl hn5 hk5 (fun _ => rfl) (fun _ => rfl) (fun _ _ _ => rfl) (by decide) (by decide) (by decide) (by rw [hz.2.1]; exact Nat.le_of_ble_eq_true rfl) (by rw [hz.2.1]; exact Nat.le_of_ble_eq_true rfl) dX4_init_52 dX4_init_54 ?_
  have hn6 := gArr_n (p := p) (k := 6) (kd := 50) (len := 16) hn5
  have hk6 := (gArr_k (p := p) (k := 6) (kd := 50) (len := 16) hn5).trans hk5
  exact am_return hz dX4_init_57 ⟨rfl, rfl, rfl, rfl⟩
def gX10 (G : amG) (p : Nat) : amG := (gArr G p 0 51 120)
def iX10 (G : amG) (I : amI) (p : Nat) : amI := (zI I (gN G))
def lX10 (G : amG) (L : amL) : amL := (zL0 L (gN G))
set_option maxRecDepth 100000 in
set_option maxHeartbeats 4000000 in
theorem c_X10_init {l : Launch} {D : va_G} {B : Heap} {G : amG} {I : amI} {L : amL} {p : Nat} (hp : p < gN G) (hk : gK G p = 10) : Mx l D B yX10_init cX10_init 1 none 1 1 120 [.ref (B.size + p)] G I L (fun r G1 I1 L1 => r = none ∧ G1 = gX10 G p ∧ I1 = iX10 G I p ∧ L1 = lX10 G L) := by
  refine Mx.ofI (by decide) rfl rfl (fun z e1 e2 e3 hin2 hz => ?_)
  subst e1; subst e2; subst e3
  have hz1 := hz.1
  refine am_aload_n hz1 dX10_init_0 0 rfl rfl ?_
  refine am_oinit hz1 (tt_of 185 (by decide +kernel) rfl) oi_m (tt_of 179 (by decide +kernel) rfl) (hz.fr (d := 0) rfl) (Nat.le_trans (Nat.le_of_ble_eq_true rfl) (hz.lo (d := 0) rfl)) dX10_init_1 ?_
  refine am_aload_n hz1 dX10_init_4 0 rfl rfl ?_
  refine am_bipush (v := 120) hz1 dX10_init_5 (by decide) ?_
  refine am_mkB (len := 120) hz1 hin2 cls_X10 (k := 0) (by decide) (tt_of 186 (by decide +kernel) rfl) rfl rfl hp hk (fun _ => rfl) (fun _ => rfl) (fun _ _ _ => rfl) (by decide) (by decide) (by decide) (by rw [hz.2.1]; exact Nat.le_of_ble_eq_true rfl) (by rw [hz.2.1]; exact Nat.le_of_ble_eq_true rfl) dX10_init_7 dX10_init_9 ?_
  have hn1 := gArr_n (p := p) (k := 0) (kd := 51) (len := 120) hp
  have hk1 := (gArr_k (p := p) (k := 0) (kd := 51) (len := 120) hp).trans hk
  exact am_return hz dX10_init_12 ⟨rfl, rfl, rfl, rfl⟩
def gX6 (G : amG) (p q1 q2 : Nat) : amG := (gPut (gPut (gArr G p 2 50 16) p 0 q1) p 1 q2)
def iX6 (G : amG) (I : amI) (p : Nat) : amI := (zI I (gN G))
def lX6 (G : amG) (L : amL) : amL := (zL0 L (gN G))
set_option maxRecDepth 100000 in
set_option maxHeartbeats 4000000 in
theorem c_X6_init {l : Launch} {D : va_G} {B : Heap} {G : amG} {I : amI} {L : amL} {p q1 q2 : Nat} (hp : p < gN G) (hk : gK G p = 6) : Mx l D B yX6_init cX6_init 3 none 1 1 16 [.ref (B.size + p), .ref (B.size + q1), .ref (B.size + q2)] G I L (fun r G1 I1 L1 => r = none ∧ G1 = gX6 G p q1 q2 ∧ I1 = iX6 G I p ∧ L1 = lX6 G L) := by
  refine Mx.ofI (by decide) rfl rfl (fun z e1 e2 e3 hin2 hz => ?_)
  subst e1; subst e2; subst e3
  have hz1 := hz.1
  refine am_aload_n hz1 dX6_init_0 0 rfl rfl ?_
  refine am_oinit hz1 (tt_of 252 (by decide +kernel) rfl) oi_m (tt_of 179 (by decide +kernel) rfl) (hz.fr (d := 0) rfl) (Nat.le_trans (Nat.le_of_ble_eq_true rfl) (hz.lo (d := 0) rfl)) dX6_init_1 ?_
  refine am_aload_n hz1 dX6_init_4 0 rfl rfl ?_
  refine am_bipush (v := 16) hz1 dX6_init_5 (by decide) ?_
  refine am_mkI (len := 16) hz1 hin2 cls_X6 (k := 2) (by decide) (tt_of 255 (by decide +kernel) rfl) rfl rfl hp hk (fun _ => rfl) (fun _ => rfl) (fun _ _ _ => rfl) (by decide) (by decide) (by decide) (by rw [hz.2.1]; exact Nat.le_of_ble_eq_true rfl) (by rw [hz.2.1]; exact Nat.le_of_ble_eq_true rfl) dX6_init_7 dX6_init_9 ?_
  have hn1 := gArr_n (p := p) (k := 2) (kd := 50) (len := 16) hp
  have hk1 := (gArr_k (p := p) (k := 2) (kd := 50) (len := 16) hp).trans hk
  refine am_aload_n hz1 dX6_init_12 0 rfl rfl ?_
  refine am_aload_n hz1 dX6_init_13 1 rfl rfl ?_
  refine am_putF hz1 hin2 cls_X6 (k := 0) (by decide) (tt_of 253 (by decide +kernel) rfl) rfl rfl hn1 hk1 (fun _ => rfl) (fun _ => rfl) (fun _ => rfl) dX6_init_14 ?_
  refine am_aload_n hz1 dX6_init_17 0 rfl rfl ?_
  refine am_aload_n hz1 dX6_init_18 2 rfl rfl ?_
  refine am_putF hz1 hin2 cls_X6 (k := 1) (by decide) (tt_of 254 (by decide +kernel) rfl) rfl rfl hn1 hk1 (fun _ => rfl) (fun _ => rfl) (fun _ => rfl) dX6_init_19 ?_
  exact am_return hz dX6_init_22 ⟨rfl, rfl, rfl, rfl⟩
def gX9 (G : amG) (p : Nat) : amG := G
def iX9 (G : amG) (I : amI) (p : Nat) : amI := I
def lX9 (G : amG) (L : amL) : amL := L
set_option maxRecDepth 100000 in
set_option maxHeartbeats 4000000 in
theorem c_X9_init {l : Launch} {D : va_G} {B : Heap} {G : amG} {I : amI} {L : amL} {p : Nat} (hp : p < gN G) (hk : gK G p = 9) : Mx l D B yX9_init cX9_init 1 none 1 0 0 [.ref (B.size + p)] G I L (fun r G1 I1 L1 => r = none ∧ G1 = gX9 G p ∧ I1 = iX9 G I p ∧ L1 = lX9 G L) := by
  refine Mx.ofI (by decide) rfl rfl (fun z e1 e2 e3 hin2 hz => ?_)
  subst e1; subst e2; subst e3
  have hz1 := hz.1
  refine am_aload_n hz1 dX9_init_0 0 rfl rfl ?_
  refine am_oinit hz1 (tt_of 278 (by decide +kernel) rfl) oi_m (tt_of 179 (by decide +kernel) rfl) (hz.fr (d := 0) rfl) (Nat.le_trans (Nat.le_of_ble_eq_true rfl) (hz.lo (d := 0) rfl)) dX9_init_1 ?_
  exact am_return hz dX9_init_4 ⟨rfl, rfl, rfl, rfl⟩
def gX0 (G : amG) (p q1 q2 : Nat) : amG := (gPut (gPut (gArr (gArr (gArr (gArr G p 0 52 1024) p 1 52 256) p 2 52 256) p 3 52 16) p 4 q1) p 5 q2)
def iX0 (G : amG) (I : amI) (p : Nat) : amI := (zI (zI (zI (zI I (gN G)) (gN G + 1)) (gN G + 2)) (gN G + 3))
def lX0 (G : amG) (L : amL) : amL := (zL0 (zL0 (zL0 (zL0 L (gN G)) (gN G + 1)) (gN G + 2)) (gN G + 3))
set_option maxRecDepth 100000 in
set_option maxHeartbeats 4000000 in
theorem c_X0_init {l : Launch} {D : va_G} {B : Heap} {G : amG} {I : amI} {L : amL} {p q1 q2 : Nat} (hp : p < gN G) (hk : gK G p = 0) : Mx l D B yX0_init cX0_init 3 none 1 4 1552 [.ref (B.size + p), .ref (B.size + q1), .ref (B.size + q2)] G I L (fun r G1 I1 L1 => r = none ∧ G1 = gX0 G p q1 q2 ∧ I1 = iX0 G I p ∧ L1 = lX0 G L) := by
  refine Mx.ofI (by decide) rfl rfl (fun z e1 e2 e3 hin2 hz => ?_)
  subst e1; subst e2; subst e3
  have hz1 := hz.1
  refine am_aload_n hz1 dX0_init_0 0 rfl rfl ?_
  refine am_oinit hz1 (tt_of 295 (by decide +kernel) rfl) oi_m (tt_of 179 (by decide +kernel) rfl) (hz.fr (d := 0) rfl) (Nat.le_trans (Nat.le_of_ble_eq_true rfl) (hz.lo (d := 0) rfl)) dX0_init_1 ?_
  refine am_aload_n hz1 dX0_init_4 0 rfl rfl ?_
  refine am_sipush (v := 1024) hz1 dX0_init_5 (by decide) ?_
  refine am_mkL (len := 1024) hz1 hin2 cls_X0 (k := 0) (by decide) (tt_of 296 (by decide +kernel) rfl) rfl rfl hp hk (fun _ => rfl) (fun _ => rfl) (fun _ _ _ => rfl) (by decide) (by decide) (by decide) (by rw [hz.2.1]; exact Nat.le_of_ble_eq_true rfl) (by rw [hz.2.1]; exact Nat.le_of_ble_eq_true rfl) dX0_init_8 dX0_init_10 ?_
  have hn1 := gArr_n (p := p) (k := 0) (kd := 52) (len := 1024) hp
  have hk1 := (gArr_k (p := p) (k := 0) (kd := 52) (len := 1024) hp).trans hk
  refine am_aload_n hz1 dX0_init_13 0 rfl rfl ?_
  refine am_sipush (v := 256) hz1 dX0_init_14 (by decide) ?_
  refine am_mkL (len := 256) hz1 hin2 cls_X0 (k := 1) (by decide) (tt_of 298 (by decide +kernel) rfl) rfl rfl hn1 hk1 (fun _ => rfl) (fun _ => rfl) (fun _ _ _ => rfl) (by decide) (by decide) (by decide) (by rw [hz.2.1]; exact Nat.le_of_ble_eq_true rfl) (by rw [hz.2.1]; exact Nat.le_of_ble_eq_true rfl) dX0_init_17 dX0_init_19 ?_
  have hn2 := gArr_n (p := p) (k := 1) (kd := 52) (len := 256) hn1
  have hk2 := (gArr_k (p := p) (k := 1) (kd := 52) (len := 256) hn1).trans hk1
  refine am_aload_n hz1 dX0_init_22 0 rfl rfl ?_
  refine am_sipush (v := 256) hz1 dX0_init_23 (by decide) ?_
  refine am_mkL (len := 256) hz1 hin2 cls_X0 (k := 2) (by decide) (tt_of 299 (by decide +kernel) rfl) rfl rfl hn2 hk2 (fun _ => rfl) (fun _ => rfl) (fun _ _ _ => rfl) (by decide) (by decide) (by decide) (by rw [hz.2.1]; exact Nat.le_of_ble_eq_true rfl) (by rw [hz.2.1]; exact Nat.le_of_ble_eq_true rfl) dX0_init_26 dX0_init_28 ?_
  have hn3 := gArr_n (p := p) (k := 2) (kd := 52) (len := 256) hn2
  have hk3 := (gArr_k (p := p) (k := 2) (kd := 52) (len := 256) hn2).trans hk2
  refine am_aload_n hz1 dX0_init_31 0 rfl rfl ?_
  refine am_bipush (v := 16) hz1 dX0_init_32 (by decide) ?_
  refine am_mkL (len := 16) hz1 hin2 cls_X0 (k := 3) (by decide) (tt_of 300 (by decide +kernel) rfl) rfl rfl hn3 hk3 (fun _ => rfl) (fun _ => rfl) (fun _ _ _ => rfl) (by decide) (by decide) (by decide) (by rw [hz.2.1]; exact Nat.le_of_ble_eq_true rfl) (by rw [hz.2.1]; exact Nat.le_of_ble_eq_true rfl) dX0_init_34 dX0_init_36 ?_
  have hn4 := gArr_n (p := p) (k := 3) (kd := 52) (len := 16) hn3
  have hk4 := (gArr_k (p := p) (k := 3) (kd := 52) (len := 16) hn3).trans hk3
  refine am_aload_n hz1 dX0_init_39 0 rfl rfl ?_
  refine am_aload_n hz1 dX0_init_40 1 rfl rfl ?_
  refine am_putF hz1 hin2 cls_X0 (k := 4) (by decide) (tt_of 301 (by decide +kernel) rfl) rfl rfl hn4 hk4 (fun _ => rfl) (fun _ => rfl) (fun _ => rfl) dX0_init_41 ?_
  refine am_aload_n hz1 dX0_init_44 0 rfl rfl ?_
  refine am_aload_n hz1 dX0_init_45 2 rfl rfl ?_
  refine am_putF hz1 hin2 cls_X0 (k := 5) (by decide) (tt_of 302 (by decide +kernel) rfl) rfl rfl hn4 hk4 (fun _ => rfl) (fun _ => rfl) (fun _ => rfl) dX0_init_46 ?_
  exact am_return hz dX0_init_49 ⟨rfl, rfl, rfl, rfl⟩
def gX3 (G : amG) (p q1 q2 : Nat) : amG := (gPut (gPut (gArr G p 0 50 16) p 1 q1) p 2 q2)
def iX3 (G : amG) (I : amI) (p : Nat) : amI := (setI (zI I (gN G)) (gN G) (q_fill ((zI I (gN G)) (gN G)) 16 (-1)))
def lX3 (G : amG) (L : amL) : amL := (zL0 L (gN G))
set_option maxRecDepth 100000 in
set_option maxHeartbeats 4000000 in
theorem c_X3_init {l : Launch} {D : va_G} {B : Heap} {G : amG} {I : amI} {L : amL} {p q1 q2 : Nat} (hp : p < gN G) (hk : gK G p = 3) : Mx l D B yX3_init cX3_init 3 none 1 1 16 [.ref (B.size + p), .ref (B.size + q1), .ref (B.size + q2)] G I L (fun r G1 I1 L1 => r = none ∧ G1 = gX3 G p q1 q2 ∧ I1 = iX3 G I p ∧ L1 = lX3 G L) := by
  refine Mx.ofI (by decide) rfl rfl (fun z e1 e2 e3 hin2 hz => ?_)
  subst e1; subst e2; subst e3
  have hz1 := hz.1
  refine am_aload_n hz1 dX3_init_0 0 rfl rfl ?_
  refine am_oinit hz1 (tt_of 322 (by decide +kernel) rfl) oi_m (tt_of 179 (by decide +kernel) rfl) (hz.fr (d := 0) rfl) (Nat.le_trans (Nat.le_of_ble_eq_true rfl) (hz.lo (d := 0) rfl)) dX3_init_1 ?_
  refine am_aload_n hz1 dX3_init_4 0 rfl rfl ?_
  refine am_bipush (v := 16) hz1 dX3_init_5 (by decide) ?_
  refine am_mkI (len := 16) hz1 hin2 cls_X3 (k := 0) (by decide) (tt_of 326 (by decide +kernel) rfl) rfl rfl hp hk (fun _ => rfl) (fun _ => rfl) (fun _ _ _ => rfl) (by decide) (by decide) (by decide) (by rw [hz.2.1]; exact Nat.le_of_ble_eq_true rfl) (by rw [hz.2.1]; exact Nat.le_of_ble_eq_true rfl) dX3_init_7 dX3_init_9 ?_
  have hn1 := gArr_n (p := p) (k := 0) (kd := 50) (len := 16) hp
  have hk1 := (gArr_k (p := p) (k := 0) (kd := 50) (len := 16) hp).trans hk
  refine am_aload_n hz1 dX3_init_12 0 rfl rfl ?_
  refine am_aload_n hz1 dX3_init_13 1 rfl rfl ?_
  refine am_putF hz1 hin2 cls_X3 (k := 1) (by decide) (tt_of 328 (by decide +kernel) rfl) rfl rfl hn1 hk1 (fun _ => rfl) (fun _ => rfl) (fun _ => rfl) dX3_init_14 ?_
  refine am_aload_n hz1 dX3_init_17 0 rfl rfl ?_
  refine am_aload_n hz1 dX3_init_18 2 rfl rfl ?_
  refine am_putF hz1 hin2 cls_X3 (k := 2) (by decide) (tt_of 329 (by decide +kernel) rfl) rfl rfl hn1 hk1 (fun _ => rfl) (fun _ => rfl) (fun _ => rfl) dX3_init_19 ?_
  refine am_aload_n hz1 dX3_init_22 0 rfl rfl ?_
  refine am_getR (r := gN G) hz1 fl_X3_9 hn1 hk1 ((gPut_rn (by decide)).trans ((gPut_rn (by decide)).trans gArr_r)) rfl dX3_init_23 ?_
  refine am_iconst (v := (-1)) hz1 dX3_init_26 (by decide) ?_
  have hf := c_fillN (l := zL z) (D := zD z) (B := zB z) (G := (gPut (gPut (gArr G p 0 50 16) p 1 q1) p 2 q2)) (I := (zI I (gN G))) (L := (zL0 L (gN G))) (p0 := gN G) (n0 := 16) (show gN G < gN G + 1 from Nat.lt_succ_self _) (show gK (gNew G 50 16) (gN G) = 50 from gNew_k) (show gL (gNew G 50 16) (gN G) = 16 from gNew_l) (-1) (by decide)
  refine am_cSf (d := 0) hz ct_X3_22 [.ref ((zB z).size + gN G), .int (-1)] [] hf rfl rfl rfl ⟨Nat.le_of_ble_eq_true rfl, Nat.le_of_ble_eq_true rfl⟩ (Nat.le_of_ble_eq_true rfl) dX3_init_27 ?_
  exact am_return hz dX3_init_30 ⟨rfl, rfl, rfl, rfl⟩
def gX5 (G : amG) (p q1 : Nat) : amG := (gPut (gArr (gArr G p 1 52 16) p 2 52 16) p 0 q1)
def iX5 (G : amG) (I : amI) (p : Nat) : amI := (zI (zI I (gN G)) (gN G + 1))
def lX5 (G : amG) (L : amL) : amL := (zL0 (zL0 L (gN G)) (gN G + 1))
set_option maxRecDepth 100000 in
set_option maxHeartbeats 4000000 in
theorem c_X5_init {l : Launch} {D : va_G} {B : Heap} {G : amG} {I : amI} {L : amL} {p q1 : Nat} (hp : p < gN G) (hk : gK G p = 5) : Mx l D B yX5_init cX5_init 2 none 1 2 32 [.ref (B.size + p), .ref (B.size + q1)] G I L (fun r G1 I1 L1 => r = none ∧ G1 = gX5 G p q1 ∧ I1 = iX5 G I p ∧ L1 = lX5 G L) := by
  refine Mx.ofI (by decide) rfl rfl (fun z e1 e2 e3 hin2 hz => ?_)
  subst e1; subst e2; subst e3
  have hz1 := hz.1
  refine am_aload_n hz1 dX5_init_0 0 rfl rfl ?_
  refine am_oinit hz1 (tt_of 342 (by decide +kernel) rfl) oi_m (tt_of 179 (by decide +kernel) rfl) (hz.fr (d := 0) rfl) (Nat.le_trans (Nat.le_of_ble_eq_true rfl) (hz.lo (d := 0) rfl)) dX5_init_1 ?_
  refine am_aload_n hz1 dX5_init_4 0 rfl rfl ?_
  refine am_bipush (v := 16) hz1 dX5_init_5 (by decide) ?_
  refine am_mkL (len := 16) hz1 hin2 cls_X5 (k := 1) (by decide) (tt_of 344 (by decide +kernel) rfl) rfl rfl hp hk (fun _ => rfl) (fun _ => rfl) (fun _ _ _ => rfl) (by decide) (by decide) (by decide) (by rw [hz.2.1]; exact Nat.le_of_ble_eq_true rfl) (by rw [hz.2.1]; exact Nat.le_of_ble_eq_true rfl) dX5_init_7 dX5_init_9 ?_
  have hn1 := gArr_n (p := p) (k := 1) (kd := 52) (len := 16) hp
  have hk1 := (gArr_k (p := p) (k := 1) (kd := 52) (len := 16) hp).trans hk
  refine am_aload_n hz1 dX5_init_12 0 rfl rfl ?_
  refine am_bipush (v := 16) hz1 dX5_init_13 (by decide) ?_
  refine am_mkL (len := 16) hz1 hin2 cls_X5 (k := 2) (by decide) (tt_of 345 (by decide +kernel) rfl) rfl rfl hn1 hk1 (fun _ => rfl) (fun _ => rfl) (fun _ _ _ => rfl) (by decide) (by decide) (by decide) (by rw [hz.2.1]; exact Nat.le_of_ble_eq_true rfl) (by rw [hz.2.1]; exact Nat.le_of_ble_eq_true rfl) dX5_init_15 dX5_init_17 ?_
  have hn2 := gArr_n (p := p) (k := 2) (kd := 52) (len := 16) hn1
  have hk2 := (gArr_k (p := p) (k := 2) (kd := 52) (len := 16) hn1).trans hk1
  refine am_aload_n hz1 dX5_init_20 0 rfl rfl ?_
  refine am_aload_n hz1 dX5_init_21 1 rfl rfl ?_
  refine am_putF hz1 hin2 cls_X5 (k := 0) (by decide) (tt_of 343 (by decide +kernel) rfl) rfl rfl hn2 hk2 (fun _ => rfl) (fun _ => rfl) (fun _ => rfl) dX5_init_22 ?_
  exact am_return hz dX5_init_25 ⟨rfl, rfl, rfl, rfl⟩
def gX2 (G : amG) (p q1 : Nat) : amG := (gPut (gArr (gArr (gArr (gArr (gArr (gArr (gArr (gArr (gArr G p 0 50 136) p 1 50 136) p 3 50 136) p 4 50 256) p 5 50 16) p 6 50 16) p 7 50 16) p 8 50 16) p 9 50 16) p 2 q1)
def iX2 (G : amG) (I : amI) (p : Nat) : amI := (zI (zI (zI (zI (zI (zI (zI (zI (zI I (gN G)) (gN G + 1)) (gN G + 2)) (gN G + 3)) (gN G + 4)) (gN G + 5)) (gN G + 6)) (gN G + 7)) (gN G + 8))
def lX2 (G : amG) (L : amL) : amL := (zL0 (zL0 (zL0 (zL0 (zL0 (zL0 (zL0 (zL0 (zL0 L (gN G)) (gN G + 1)) (gN G + 2)) (gN G + 3)) (gN G + 4)) (gN G + 5)) (gN G + 6)) (gN G + 7)) (gN G + 8))
set_option maxRecDepth 100000 in
set_option maxHeartbeats 4000000 in
theorem c_X2_init {l : Launch} {D : va_G} {B : Heap} {G : amG} {I : amI} {L : amL} {p q1 : Nat} (hp : p < gN G) (hk : gK G p = 2) : Mx l D B yX2_init cX2_init 2 none 1 9 744 [.ref (B.size + p), .ref (B.size + q1)] G I L (fun r G1 I1 L1 => r = none ∧ G1 = gX2 G p q1 ∧ I1 = iX2 G I p ∧ L1 = lX2 G L) := by
  refine Mx.ofI (by decide) rfl rfl (fun z e1 e2 e3 hin2 hz => ?_)
  subst e1; subst e2; subst e3
  have hz1 := hz.1
  refine am_aload_n hz1 dX2_init_0 0 rfl rfl ?_
  refine am_oinit hz1 (tt_of 358 (by decide +kernel) rfl) oi_m (tt_of 179 (by decide +kernel) rfl) (hz.fr (d := 0) rfl) (Nat.le_trans (Nat.le_of_ble_eq_true rfl) (hz.lo (d := 0) rfl)) dX2_init_1 ?_
  refine am_aload_n hz1 dX2_init_4 0 rfl rfl ?_
  refine am_sipush (v := 136) hz1 dX2_init_5 (by decide) ?_
  refine am_mkI (len := 136) hz1 hin2 cls_X2 (k := 0) (by decide) (tt_of 359 (by decide +kernel) rfl) rfl rfl hp hk (fun _ => rfl) (fun _ => rfl) (fun _ _ _ => rfl) (by decide) (by decide) (by decide) (by rw [hz.2.1]; exact Nat.le_of_ble_eq_true rfl) (by rw [hz.2.1]; exact Nat.le_of_ble_eq_true rfl) dX2_init_8 dX2_init_10 ?_
  have hn1 := gArr_n (p := p) (k := 0) (kd := 50) (len := 136) hp
  have hk1 := (gArr_k (p := p) (k := 0) (kd := 50) (len := 136) hp).trans hk
  refine am_aload_n hz1 dX2_init_13 0 rfl rfl ?_
  refine am_sipush (v := 136) hz1 dX2_init_14 (by decide) ?_
  refine am_mkI (len := 136) hz1 hin2 cls_X2 (k := 1) (by decide) (tt_of 361 (by decide +kernel) rfl) rfl rfl hn1 hk1 (fun _ => rfl) (fun _ => rfl) (fun _ _ _ => rfl) (by decide) (by decide) (by decide) (by rw [hz.2.1]; exact Nat.le_of_ble_eq_true rfl) (by rw [hz.2.1]; exact Nat.le_of_ble_eq_true rfl) dX2_init_17 dX2_init_19 ?_
  have hn2 := gArr_n (p := p) (k := 1) (kd := 50) (len := 136) hn1
  have hk2 := (gArr_k (p := p) (k := 1) (kd := 50) (len := 136) hn1).trans hk1
  refine am_aload_n hz1 dX2_init_22 0 rfl rfl ?_
  refine am_sipush (v := 136) hz1 dX2_init_23 (by decide) ?_
  refine am_mkI (len := 136) hz1 hin2 cls_X2 (k := 3) (by decide) (tt_of 364 (by decide +kernel) rfl) rfl rfl hn2 hk2 (fun _ => rfl) (fun _ => rfl) (fun _ _ _ => rfl) (by decide) (by decide) (by decide) (by rw [hz.2.1]; exact Nat.le_of_ble_eq_true rfl) (by rw [hz.2.1]; exact Nat.le_of_ble_eq_true rfl) dX2_init_26 dX2_init_28 ?_
  have hn3 := gArr_n (p := p) (k := 3) (kd := 50) (len := 136) hn2
  have hk3 := (gArr_k (p := p) (k := 3) (kd := 50) (len := 136) hn2).trans hk2
  refine am_aload_n hz1 dX2_init_31 0 rfl rfl ?_
  refine am_sipush (v := 256) hz1 dX2_init_32 (by decide) ?_
  refine am_mkI (len := 256) hz1 hin2 cls_X2 (k := 4) (by decide) (tt_of 365 (by decide +kernel) rfl) rfl rfl hn3 hk3 (fun _ => rfl) (fun _ => rfl) (fun _ _ _ => rfl) (by decide) (by decide) (by decide) (by rw [hz.2.1]; exact Nat.le_of_ble_eq_true rfl) (by rw [hz.2.1]; exact Nat.le_of_ble_eq_true rfl) dX2_init_35 dX2_init_37 ?_
  have hn4 := gArr_n (p := p) (k := 4) (kd := 50) (len := 256) hn3
  have hk4 := (gArr_k (p := p) (k := 4) (kd := 50) (len := 256) hn3).trans hk3
  refine am_aload_n hz1 dX2_init_40 0 rfl rfl ?_
  refine am_bipush (v := 16) hz1 dX2_init_41 (by decide) ?_
  refine am_mkI (len := 16) hz1 hin2 cls_X2 (k := 5) (by decide) (tt_of 366 (by decide +kernel) rfl) rfl rfl hn4 hk4 (fun _ => rfl) (fun _ => rfl) (fun _ _ _ => rfl) (by decide) (by decide) (by decide) (by rw [hz.2.1]; exact Nat.le_of_ble_eq_true rfl) (by rw [hz.2.1]; exact Nat.le_of_ble_eq_true rfl) dX2_init_43 dX2_init_45 ?_
  have hn5 := gArr_n (p := p) (k := 5) (kd := 50) (len := 16) hn4
  have hk5 := (gArr_k (p := p) (k := 5) (kd := 50) (len := 16) hn4).trans hk4
  refine am_aload_n hz1 dX2_init_48 0 rfl rfl ?_
  refine am_bipush (v := 16) hz1 dX2_init_49 (by decide) ?_
  refine am_mkI (len := 16) hz1 hin2 cls_X2 (k := 6) (by decide) (tt_of 367 (by decide +kernel) rfl) rfl rfl hn5 hk5 (fun _ => rfl) (fun _ => rfl) (fun _ _ _ => rfl) (by decide) (by decide) (by decide) (by rw [hz.2.1]; exact Nat.le_of_ble_eq_true rfl) (by rw [hz.2.1]; exact Nat.le_of_ble_eq_true rfl) dX2_init_51 dX2_init_53 ?_
  have hn6 := gArr_n (p := p) (k := 6) (kd := 50) (len := 16) hn5
  have hk6 := (gArr_k (p := p) (k := 6) (kd := 50) (len := 16) hn5).trans hk5
  refine am_aload_n hz1 dX2_init_56 0 rfl rfl ?_
  refine am_bipush (v := 16) hz1 dX2_init_57 (by decide) ?_
  refine am_mkI (len := 16) hz1 hin2 cls_X2 (k := 7) (by decide) (tt_of 368 (by decide +kernel) rfl) rfl rfl hn6 hk6 (fun _ => rfl) (fun _ => rfl) (fun _ _ _ => rfl) (by decide) (by decide) (by decide) (by rw [hz.2.1]; exact Nat.le_of_ble_eq_true rfl) (by rw [hz.2.1]; exact Nat.le_of_ble_eq_true rfl) dX2_init_59 dX2_init_61 ?_
  have hn7 := gArr_n (p := p) (k := 7) (kd := 50) (len := 16) hn6
  have hk7 := (gArr_k (p := p) (k := 7) (kd := 50) (len := 16) hn6).trans hk6
  refine am_aload_n hz1 dX2_init_64 0 rfl rfl ?_
  refine am_bipush (v := 16) hz1 dX2_init_65 (by decide) ?_
  refine am_mkI (len := 16) hz1 hin2 cls_X2 (k := 8) (by decide) (tt_of 369 (by decide +kernel) rfl) rfl rfl hn7 hk7 (fun _ => rfl) (fun _ => rfl) (fun _ _ _ => rfl) (by decide) (by decide) (by decide) (by rw [hz.2.1]; exact Nat.le_of_ble_eq_true rfl) (by rw [hz.2.1]; exact Nat.le_of_ble_eq_true rfl) dX2_init_67 dX2_init_69 ?_
  have hn8 := gArr_n (p := p) (k := 8) (kd := 50) (len := 16) hn7
  have hk8 := (gArr_k (p := p) (k := 8) (kd := 50) (len := 16) hn7).trans hk7
  refine am_aload_n hz1 dX2_init_72 0 rfl rfl ?_
  refine am_bipush (v := 16) hz1 dX2_init_73 (by decide) ?_
  refine am_mkI (len := 16) hz1 hin2 cls_X2 (k := 9) (by decide) (tt_of 370 (by decide +kernel) rfl) rfl rfl hn8 hk8 (fun _ => rfl) (fun _ => rfl) (fun _ _ _ => rfl) (by decide) (by decide) (by decide) (by rw [hz.2.1]; exact Nat.le_of_ble_eq_true rfl) (by rw [hz.2.1]; exact Nat.le_of_ble_eq_true rfl) dX2_init_75 dX2_init_77 ?_
  have hn9 := gArr_n (p := p) (k := 9) (kd := 50) (len := 16) hn8
  have hk9 := (gArr_k (p := p) (k := 9) (kd := 50) (len := 16) hn8).trans hk8
  refine am_aload_n hz1 dX2_init_80 0 rfl rfl ?_
  refine am_aload_n hz1 dX2_init_81 1 rfl rfl ?_
  refine am_putF hz1 hin2 cls_X2 (k := 2) (by decide) (tt_of 363 (by decide +kernel) rfl) rfl rfl hn9 hk9 (fun _ => rfl) (fun _ => rfl) (fun _ => rfl) dX2_init_82 ?_
  exact am_return hz dX2_init_85 ⟨rfl, rfl, rfl, rfl⟩
def gX7 (G : amG) (p q1 : Nat) : amG := (gPut (gArr (gArr (gArr (gArr G p 1 52 17) p 2 52 17) p 3 50 16) p 4 52 0) p 0 q1)
def iX7 (G : amG) (I : amI) (p : Nat) : amI := (zI (zI (zI (zI I (gN G)) (gN G + 1)) (gN G + 2)) (gN G + 3))
def lX7 (G : amG) (L : amL) : amL := (zL0 (zL0 (zL0 (zL0 L (gN G)) (gN G + 1)) (gN G + 2)) (gN G + 3))
set_option maxRecDepth 100000 in
set_option maxHeartbeats 4000000 in
theorem c_X7_init {l : Launch} {D : va_G} {B : Heap} {G : amG} {I : amI} {L : amL} {p q1 : Nat} (hp : p < gN G) (hk : gK G p = 7) : Mx l D B yX7_init cX7_init 2 none 1 4 50 [.ref (B.size + p), .ref (B.size + q1)] G I L (fun r G1 I1 L1 => r = none ∧ G1 = gX7 G p q1 ∧ I1 = iX7 G I p ∧ L1 = lX7 G L) := by
  refine Mx.ofI (by decide) rfl rfl (fun z e1 e2 e3 hin2 hz => ?_)
  subst e1; subst e2; subst e3
  have hz1 := hz.1
  refine am_aload_n hz1 dX7_init_0 0 rfl rfl ?_
  refine am_oinit hz1 (tt_of 406 (by decide +kernel) rfl) oi_m (tt_of 179 (by decide +kernel) rfl) (hz.fr (d := 0) rfl) (Nat.le_trans (Nat.le_of_ble_eq_true rfl) (hz.lo (d := 0) rfl)) dX7_init_1 ?_
  refine am_aload_n hz1 dX7_init_4 0 rfl rfl ?_
  refine am_bipush (v := 17) hz1 dX7_init_5 (by decide) ?_
  refine am_mkL (len := 17) hz1 hin2 cls_X7 (k := 1) (by decide) (tt_of 408 (by decide +kernel) rfl) rfl rfl hp hk (fun _ => rfl) (fun _ => rfl) (fun _ _ _ => rfl) (by decide) (by decide) (by decide) (by rw [hz.2.1]; exact Nat.le_of_ble_eq_true rfl) (by rw [hz.2.1]; exact Nat.le_of_ble_eq_true rfl) dX7_init_7 dX7_init_9 ?_
  have hn1 := gArr_n (p := p) (k := 1) (kd := 52) (len := 17) hp
  have hk1 := (gArr_k (p := p) (k := 1) (kd := 52) (len := 17) hp).trans hk
  refine am_aload_n hz1 dX7_init_12 0 rfl rfl ?_
  refine am_bipush (v := 17) hz1 dX7_init_13 (by decide) ?_
  refine am_mkL (len := 17) hz1 hin2 cls_X7 (k := 2) (by decide) (tt_of 409 (by decide +kernel) rfl) rfl rfl hn1 hk1 (fun _ => rfl) (fun _ => rfl) (fun _ _ _ => rfl) (by decide) (by decide) (by decide) (by rw [hz.2.1]; exact Nat.le_of_ble_eq_true rfl) (by rw [hz.2.1]; exact Nat.le_of_ble_eq_true rfl) dX7_init_15 dX7_init_17 ?_
  have hn2 := gArr_n (p := p) (k := 2) (kd := 52) (len := 17) hn1
  have hk2 := (gArr_k (p := p) (k := 2) (kd := 52) (len := 17) hn1).trans hk1
  refine am_aload_n hz1 dX7_init_20 0 rfl rfl ?_
  refine am_bipush (v := 16) hz1 dX7_init_21 (by decide) ?_
  refine am_mkI (len := 16) hz1 hin2 cls_X7 (k := 3) (by decide) (tt_of 410 (by decide +kernel) rfl) rfl rfl hn2 hk2 (fun _ => rfl) (fun _ => rfl) (fun _ _ _ => rfl) (by decide) (by decide) (by decide) (by rw [hz.2.1]; exact Nat.le_of_ble_eq_true rfl) (by rw [hz.2.1]; exact Nat.le_of_ble_eq_true rfl) dX7_init_23 dX7_init_25 ?_
  have hn3 := gArr_n (p := p) (k := 3) (kd := 50) (len := 16) hn2
  have hk3 := (gArr_k (p := p) (k := 3) (kd := 50) (len := 16) hn2).trans hk2
  refine am_aload_n hz1 dX7_init_28 0 rfl rfl ?_
  refine am_iconst (v := 0) hz1 dX7_init_29 (by decide) ?_
  refine am_mkLn (len := 0) hz1 fl_X7_22 hn3 hk3 (fun _ => rfl) (fun _ => rfl) (fun _ _ _ => rfl) (by decide) (by decide) (by decide) (by rw [hz.2.1]; exact Nat.le_of_ble_eq_true rfl) (by rw [hz.2.1]; exact Nat.le_of_ble_eq_true rfl) dX7_init_30 dX7_init_32 ?_
  have hn4 := gArr_n (p := p) (k := 4) (kd := 52) (len := 0) hn3
  have hk4 := (gArr_k (p := p) (k := 4) (kd := 52) (len := 0) hn3).trans hk3
  refine am_aload_n hz1 dX7_init_35 0 rfl rfl ?_
  refine am_aload_n hz1 dX7_init_36 1 rfl rfl ?_
  refine am_putF hz1 hin2 cls_X7 (k := 0) (by decide) (tt_of 407 (by decide +kernel) rfl) rfl rfl hn4 hk4 (fun _ => rfl) (fun _ => rfl) (fun _ => rfl) dX7_init_37 ?_
  exact am_return hz dX7_init_40 ⟨rfl, rfl, rfl, rfl⟩
def gX1 (G : amG) (p : Nat) : amG := (gArr G p 0 54 8)
def iX1 (G : amG) (I : amI) (p : Nat) : amI := (zI I (gN G))
def lX1 (G : amG) (L : amL) : amL := (zL0 L (gN G))
set_option maxRecDepth 100000 in
set_option maxHeartbeats 4000000 in
theorem c_X1_init {l : Launch} {D : va_G} {B : Heap} {G : amG} {I : amI} {L : amL} {p : Nat} (hp : p < gN G) (hk : gK G p = 1) : Mx l D B yX1_init cX1_init 1 none 1 1 8 [.ref (B.size + p)] G I L (fun r G1 I1 L1 => r = none ∧ G1 = gX1 G p ∧ I1 = iX1 G I p ∧ L1 = lX1 G L) := by
  refine Mx.ofI (by decide) rfl rfl (fun z e1 e2 e3 hin2 hz => ?_)
  subst e1; subst e2; subst e3
  have hz1 := hz.1
  refine am_aload_n hz1 dX1_init_0 0 rfl rfl ?_
  refine am_oinit hz1 (tt_of 437 (by decide +kernel) rfl) oi_m (tt_of 179 (by decide +kernel) rfl) (hz.fr (d := 0) rfl) (Nat.le_trans (Nat.le_of_ble_eq_true rfl) (hz.lo (d := 0) rfl)) dX1_init_1 ?_
  refine am_aload_n hz1 dX1_init_4 0 rfl rfl ?_
  refine am_bipush (v := 8) hz1 dX1_init_5 (by decide) ?_
  refine am_mkR (len := 8) (t := 4) (kd := 54) hz1 hin2 rfl (by decide) hz1.2.2.2.2.2.1.2.2.2.1 (tt_of 438 (by decide +kernel) rfl) cls_X1 (k := 0) (by decide) (tt_of 440 (by decide +kernel) rfl) rfl rfl hp hk (fun _ => rfl) (fun _ => rfl) (fun _ _ _ => rfl) (by decide) (by decide) (by decide) (by rw [hz.2.1]; exact Nat.le_of_ble_eq_true rfl) (by rw [hz.2.1]; exact Nat.le_of_ble_eq_true rfl) dX1_init_7 dX1_init_10 ?_
  have hn1 := gArr_n (p := p) (k := 0) (kd := 54) (len := 8) hp
  have hk1 := (gArr_k (p := p) (k := 0) (kd := 54) (len := 8) hp).trans hk
  exact am_return hz dX1_init_13 ⟨rfl, rfl, rfl, rfl⟩
theorem ci_X11_13 : CIN RX11 13 yX10_init "OrderAlgebra" cX10_init 1 0 := ⟨fun s h => h.1, (tt_of 183 (by decide +kernel) rfl), (tt_of 152 (by decide +kernel) rfl), (tt_of 184 (by decide +kernel) rfl), ⟨by decide, by decide, by decide +kernel⟩, rfl, by decide⟩
theorem ci_X11_20 : CIN RX11 20 yX4_init "OrderAlgebra" cX4_init 1 0 := ⟨fun s h => h.2.1, (tt_of 199 (by decide +kernel) rfl), (tt_of 153 (by decide +kernel) rfl), (tt_of 200 (by decide +kernel) rfl), ⟨by decide, by decide, by decide +kernel⟩, rfl, by decide⟩
theorem ci_X11_43 : CIN RX11 43 yX9_init "OrderAlgebra" cX9_init 1 0 := ⟨fun s h => h.2.2.1, (tt_of 276 (by decide +kernel) rfl), (tt_of 155 (by decide +kernel) rfl), (tt_of 277 (by decide +kernel) rfl), ⟨by decide, by decide, by decide +kernel⟩, rfl, by decide⟩
theorem ci_X11_95 : CIN RX11 95 yX1_init "OrderAlgebra" cX1_init 1 0 := ⟨fun s h => h.2.2.2.1, (tt_of 435 (by decide +kernel) rfl), (tt_of 162 (by decide +kernel) rfl), (tt_of 436 (by decide +kernel) rfl), ⟨by decide, by decide, by decide +kernel⟩, rfl, by decide⟩
theorem ci_X1_21 : CIN RX1 21 yX8_init "OrderAlgebra" cX8_init 1 0 := ⟨fun s h => h.2.2.2.2, (tt_of 703 (by decide +kernel) rfl), (tt_of 169 (by decide +kernel) rfl), (tt_of 704 (by decide +kernel) rfl), ⟨by decide, by decide, by decide +kernel⟩, rfl, by decide⟩
theorem ci_X11_30 : CI RX11 30 yX6_init cX6_init 3 2 := ⟨(tt_of 249 (by decide +kernel) rfl), (tt_of 250 (by decide +kernel) rfl), (tt_of 154 (by decide +kernel) rfl), (tt_of 251 (by decide +kernel) rfl), ⟨by decide, by decide, by decide +kernel⟩, rfl, by decide⟩
theorem ci_X11_50 : CI RX11 50 yX0_init cX0_init 3 2 := ⟨(tt_of 292 (by decide +kernel) rfl), (tt_of 293 (by decide +kernel) rfl), (tt_of 156 (by decide +kernel) rfl), (tt_of 294 (by decide +kernel) rfl), ⟨by decide, by decide, by decide +kernel⟩, rfl, by decide⟩
theorem ci_X11_63 : CI RX11 63 yX3_init cX3_init 3 2 := ⟨(tt_of 319 (by decide +kernel) rfl), (tt_of 320 (by decide +kernel) rfl), (tt_of 157 (by decide +kernel) rfl), (tt_of 321 (by decide +kernel) rfl), ⟨by decide, by decide, by decide +kernel⟩, rfl, by decide⟩
theorem ci_X11_72 : CI RX11 72 yX5_init cX5_init 2 1 := ⟨(tt_of 339 (by decide +kernel) rfl), (tt_of 340 (by decide +kernel) rfl), (tt_of 159 (by decide +kernel) rfl), (tt_of 341 (by decide +kernel) rfl), ⟨by decide, by decide, by decide +kernel⟩, rfl, by decide⟩
theorem ci_X11_81 : CI RX11 81 yX2_init cX2_init 2 1 := ⟨(tt_of 355 (by decide +kernel) rfl), (tt_of 356 (by decide +kernel) rfl), (tt_of 160 (by decide +kernel) rfl), (tt_of 357 (by decide +kernel) rfl), ⟨by decide, by decide, by decide +kernel⟩, rfl, by decide⟩
theorem ci_X11_88 : CI RX11 88 yX7_init cX7_init 2 1 := ⟨(tt_of 403 (by decide +kernel) rfl), (tt_of 404 (by decide +kernel) rfl), (tt_of 161 (by decide +kernel) rfl), (tt_of 405 (by decide +kernel) rfl), ⟨by decide, by decide, by decide +kernel⟩, rfl, by decide⟩
theorem ci_L_9 : CI RL 9 yX11_init cX11_init 2 0 := ⟨(tt_of 174 (by decide +kernel) rfl), (tt_of 175 (by decide +kernel) rfl), (tt_of 151 (by decide +kernel) rfl), (tt_of 176 (by decide +kernel) rfl), ⟨by decide, by decide, by decide +kernel⟩, rfl, by decide⟩
theorem ci_L_12 : CI RL 12 yX12_init cX12_init 1 0 := ⟨(tt_of 1283 (by decide +kernel) rfl), (tt_of 1284 (by decide +kernel) rfl), (tt_of 163 (by decide +kernel) rfl), (tt_of 1285 (by decide +kernel) rfl), ⟨by decide, by decide, by decide +kernel⟩, rfl, by decide⟩
