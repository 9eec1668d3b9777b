/-! THE ORDER'S LOOPS THAT WRITE -/
def q_sz (e : Int32) : Int32 := if (1 : Int32) < (if (16 : Int32) < e then (16 : Int32) else e) then (if (16 : Int32) < e then (16 : Int32) else e) else 1
theorem q_sz_ok (e : Int32) : ∃ n : Nat, 1 ≤ n ∧ n ≤ 16 ∧ q_sz e = nI n := by
  unfold q_sz
  by_cases h1 : (16 : Int32) < e
  · rw [if_pos h1, if_pos (by decide)]
    exact ⟨16, by decide, by decide, rfl⟩
  · rw [if_neg h1]
    by_cases h2 : (1 : Int32) < e
    · rw [if_pos h2]
      have h3 : e ≤ 16 := Int32.not_lt.mp h1
      obtain ⟨j, hj, rfl⟩ := nI_of2 (x := e) (M := 16) (n := 16) (by decide) (fun h => by rw [Int32.lt_iff_toInt_lt] at h h2; simp at h h2; omega) h3
      refine ⟨j, ?_, hj, rfl⟩
      have h4 : nI 1 < nI j := h2
      rw [nI_ltI (by decide) (by omega)] at h4
      omega
    · rw [if_neg h2]
      exact ⟨1, by decide, by decide, rfl⟩
theorem q_sz_n {n : Nat} (h1 : 1 ≤ n) (h2 : n ≤ 16) : q_sz (nI n) = nI n := by
  have : ∀ n, n ≤ 16 → 1 ≤ n → q_sz (nI n) = nI n := by decide +kernel
  exact this n h2 h1
def q_begin (I : amI) (o : Nat) (e : Int32) : amI := setI (setI I o (upd (I o) 0 (q_sz e))) (o + 1) (q_fill (I (o + 1)) 16 0)
def q_cp (f g : Nat → Int32) (n : Nat) : Nat → Int32 := fun j => if j < n then f j else if j < 16 then 0 else g j
def q_copy (I : amI) (o : Nat) (e : Int32) (p : Nat) : amI := setI (setI I o (upd (I o) 0 (q_sz e))) (o + 1) (q_cp (I p) (I (o + 1)) (q_sz e).toNatClampNeg)
def q_lk (I : amI) (o : Nat) (a m : Int32) (n : Nat) : Nat → Int32 := fun j => if (decide (j < n) && q_atMost I o (nI j) a) = true then I (o + 1) j ||| m else I (o + 1) j
def q_link (I : amI) (o : Nat) (a b : Int32) : amI := setI I (o + 1) (q_lk I o a (q_from I o b) (sz I o))
def rowOk (I : amI) (o : Nat) : Prop := ∀ i, i < sz I o → ∃ x, x < sz I o ∧ I (o + 6) i = nI x
def q_mf (I : amI) (o : Nat) (a : Int32) (f : Nat → Int64) : Nat → (Nat → Int64)
  | 0 => f
  | i + 1 => vp_updL (q_mf I o a f i) (I (o + 6) i).toNatClampNeg (if I (o + 6) i = a then 1 else -(sumS (q_mf I o a f i) (q_from I o a &&& I (o + 2) (I (o + 6) i).toNatClampNeg) (sz I o)))
def q_mtk (I : amI) (o : Nat) (a : Int32) (f : Nat → Int64) (n : Nat) : Nat → (Nat → Int64)
  | 0 => f
  | k + 1 => vp_updL (q_mtk I o a f n k) (I (o + 6) (n - 1 - k)).toNatClampNeg (if I (o + 6) (n - 1 - k) = a then 1 else -(sumS (q_mtk I o a f n k) (q_upTo I o a &&& I (o + 1) (I (o + 6) (n - 1 - k)).toNatClampNeg) (sz I o)))
def q_mt (I : amI) (o : Nat) (a : Int32) (f : Nat → Int64) (n : Nat) : Nat → Int64 := q_mtk I o a f n n
/-- beneath, with x rows done, and of the next one y places -/
def q_dB (I : amI) (o x y : Nat) : amI := setI I (o + 2) (fun j => if j < sz I o then mkset (fun w => bt (I (o + 1) w) j) (if j < y then x + 1 else x) else if j < 16 then 0 else I (o + 2) j)
def q_cov (I : amI) (o x y : Nat) : Bool := bt (I (o + 1) x) y && decide (I (o + 1) x &&& I (o + 2) y = 0)
def q_dC (I : amI) (o x y : Nat) : amI :=
  setI (setI I (o + 3) (fun j => if j < 16 then (if j < x then mkset (q_cov I o j) (sz I o) else if j = x then mkset (q_cov I o x) y else 0) else I (o + 3) j)) (o + 4) (fun j => if j < sz I o then mkset (fun w => q_cov I o w j) (if j < y then x + 1 else x) else if j < 16 then 0 else I (o + 4) j)
theorem szOk_c {I1 I2 : amI} {o : Nat} (h : I2 o 0 = I1 o 0) (hs : szOk I1 o) : szOk I2 o := by
  obtain ⟨n, a, b, c⟩ := hs
  exact ⟨n, a, b, h.trans c⟩
theorem sz_c {I1 I2 : amI} {o : Nat} (h : I2 o 0 = I1 o 0) : sz I2 o = sz I1 o := by unfold sz; rw [h]
theorem atMost_c {I1 I2 : amI} {o x : Nat} {a : Int32} (hx : x < 2 ^ 31) (h : I2 o 0 = I1 o 0) (h1 : I2 (o + 1) x = I1 (o + 1) x) : q_atMost I2 o (nI x) a = q_atMost I1 o (nI x) a := by
  simp only [q_atMost, q_isBelow, q_has, h, cl_nI hx, h1]
theorem upd_s {f : Nat → Int32} {k : Nat} {x : Int32} : upd f k x k = x := if_pos rfl
theorem upd_n {f : Nat → Int32} {k j : Nat} {x : Int32} (h : j ≠ k) : upd f k x j = f j := if_neg h
theorem setI2_c {I : amI} {p q : Nat} {f f' g g' : Nat → Int32} (hf : f = f') (hg : g = g') : setI (setI I p f) q g = setI (setI I p f') q g' := by rw [hf, hg]
set_option maxRecDepth 100000 in
set_option maxHeartbeats 4000000 in
theorem b_X4_begin_0 {z : amZ} {post : amP} {G : amG} {I : amI} {L : amL} (hz : Go z cX4_begin RX4 2 none 1 0 0 post) (hG : Lay G) {o : Nat} (ho : isO o) {v1 : Int32} (h : post none G (setI (setI I o (upd (I o) 0 (if (1 : Int32) < (if (16 : Int32) < v1 then (16 : Int32) else v1) then (if (16 : Int32) < v1 then (16 : Int32) else v1) else (1 : Int32)))) (o + 1) (q_fill ((setI I o (upd (I o) 0 (if (1 : Int32) < (if (16 : Int32) < v1 then (16 : Int32) else v1) then (if (16 : Int32) < v1 then (16 : Int32) else v1) else (1 : Int32)))) (o + 1)) 16 (0 : Int32))) L) : Wx z 0 0 0 [(0, .ref ((zB z).size + o)), (1, .int v1)] [] G I L := by
  have hz1 := hz.1
  refine am_aload_n hz1 dX4_begin_0 0 rfl rfl ?_
  refine am_iconst (v := 1) hz1 dX4_begin_1 (by decide) ?_
  refine am_iload_n hz1 dX4_begin_2 1 rfl rfl ?_
  refine am_bipush (v := 16) hz1 dX4_begin_3 (by decide) ?_
  refine am_mmin hz ct_X4_34 rfl ⟨Nat.le_refl _, Nat.le_refl _⟩ (Nat.le_of_ble_eq_true rfl) dX4_begin_5 ?_
  refine am_mmax hz ct_X4_40 rfl ⟨Nat.le_refl _, Nat.le_refl _⟩ (Nat.le_of_ble_eq_true rfl) dX4_begin_8 ?_
  refine am_putI hz1 fl_X4_9 (oN hG ho) (oK hG ho) rfl rfl (fun _ => rfl) dX4_begin_11 ?_
  refine am_aload_n hz1 dX4_begin_14 0 rfl rfl ?_
  refine am_getR hz1 fl_X4_15 (oN hG ho) (oK hG ho) (oR1 hG ho) rfl dX4_begin_15 ?_
  refine am_iconst (v := 0) hz1 dX4_begin_18 (by decide) ?_
  refine am_cSf hz ct_X4_43 [.ref ((zB z).size + (o + 1)), .int 0] [] (c_J7_fill_53178 hG (oN1 hG ho) (oK1 hG ho) (oL1 hG ho) (0 : Int32) (by decide)) rfl rfl rfl ⟨Nat.le_refl _, Nat.le_refl _⟩ (Nat.le_of_ble_eq_true rfl) dX4_begin_19 ?_
  exact am_return hz dX4_begin_22 h
set_option maxRecDepth 100000 in
set_option maxHeartbeats 4000000 in
theorem c_X4_begin {l : Launch} {D : va_G} {B : Heap} {G : amG} {I : amI} {L : amL} {o : Nat} (hG : Lay G) (ho : isO o) (v1 : Int32)  : Fx l D B yX4_begin cX4_begin 2 none 1 [.ref (B.size + o), .int v1] G I L none (q_begin I o v1) L := by
  refine Mx.of (by decide) rfl rfl (fun z e1 e2 e3 hz => ?_)
  subst e1; subst e2; subst e3
  refine b_X4_begin_0 hz hG ho ?_
  refine ⟨rfl, rfl, ?_, rfl⟩
  rw [setI_n (show o + 1 ≠ o by omega)]
  rfl
set_option maxRecDepth 100000 in
set_option maxHeartbeats 4000000 in
theorem b_X4_copy_0 {z : amZ} {post : amP} {G : amG} {I : amI} {L : amL} (hz : Go z cX4_copy RX4 4 none 2 0 0 post) (hG : Lay G) {o : Nat} (ho : isO o) {p2 : Nat} (hn_p2 : p2 < gN G) (hk_p2 : gK G p2 = 50) (hl_p2 : gL G p2 = 16) {v1 : Int32} (h : Wx z 0 0 7 [(0, .ref ((zB z).size + o)), (2, .ref ((zB z).size + p2)), (3, .int 0)] [] G (q_begin I o v1) L) : Wx z 0 0 0 [(0, .ref ((zB z).size + o)), (1, .int v1), (2, .ref ((zB z).size + p2))] [] G I L := by
  have hz1 := hz.1
  refine am_aload_n hz1 dX4_copy_0 0 rfl rfl ?_
  refine am_iload_n hz1 dX4_copy_1 1 rfl rfl ?_
  refine am_cVf hz cv_X4_49 [.int v1] [] (c_X4_begin hG ho v1 ) (oN hG ho) (oK hG ho) rfl rfl rfl ⟨Nat.le_refl _, Nat.le_refl _⟩ (Nat.le_of_ble_eq_true rfl) dX4_copy_2 ?_
  refine am_iconst (v := 0) hz1 dX4_copy_5 (by decide) ?_
  refine am_istore_n (lv' := [(3, .int 0), (0, .ref ((zB z).size + o)), (1, .int v1), (2, .ref ((zB z).size + p2))]) hz1 dX4_copy_6 rfl rfl rfl ?_
  exact am_sub (lv' := [(0, .ref ((zB z).size + o)), (2, .ref ((zB z).size + p2)), (3, .int 0)]) [1, 3, 0] rfl h
set_option maxRecDepth 100000 in
set_option maxHeartbeats 4000000 in
theorem b_X4_copy_7 {z : amZ} {post : amP} {G : amG} {I : amI} {L : amL} (hz : Go z cX4_copy RX4 4 none 2 0 0 post) (hG : Lay G) {o : Nat} (ho : isO o) {p2 : Nat} (hn_p2 : p2 < gN G) (hk_p2 : gK G p2 = 50) (hl_p2 : gL G p2 = 16) {v3 : Int32} (h : (((I o 0) ≤ v3) → post none G I L) ∧ ((¬ (I o 0) ≤ v3) → (((Int32.ofNat 16) ≤ v3) → post none G I L) ∧ ((¬ (Int32.ofNat 16) ≤ v3) → vp_in v3 16 ∧ vp_in v3 16 ∧ Wx z 0 0 7 [(0, .ref ((zB z).size + o)), (2, .ref ((zB z).size + p2)), (3, .int (v3 + 1))] [] G (setI I (o + 1) (upd (I (o + 1)) v3.toNatClampNeg (I p2 v3.toNatClampNeg))) L))) : Wx z 0 0 7 [(0, .ref ((zB z).size + o)), (2, .ref ((zB z).size + p2)), (3, .int v3)] [] G I L := by
  have hz1 := hz.1
  refine am_iload_n hz1 dX4_copy_7 2 rfl rfl ?_
  refine am_aload_n hz1 dX4_copy_8 0 rfl rfl ?_
  refine am_getI hz1 fl_X4_9 (oN hG ho) (oK hG ho) rfl dX4_copy_9 ?_
  refine am_icmp_ge (tgt := 36) hz1 dX4_copy_12 (by decide) (fun c1 => ?_) (fun c1 => ?_)
  · replace h := h.1 c1
    exact am_return hz dX4_copy_36 h
  · replace h := h.2 c1
    refine am_iload_n hz1 dX4_copy_15 2 rfl rfl ?_
    refine am_aload_n hz1 dX4_copy_16 1 rfl rfl ?_
    refine am_alenI hz1 hn_p2 hk_p2 dX4_copy_17 ?_
    rw [hl_p2]
    refine am_icmp_ge (tgt := 36) hz1 dX4_copy_18 (by decide) (fun c2 => ?_) (fun c2 => ?_)
    · replace h := h.1 c2
      exact am_return hz dX4_copy_36 h
    · replace h := h.2 c2
      refine am_aload_n hz1 dX4_copy_21 0 rfl rfl ?_
      refine am_getR hz1 fl_X4_15 (oN hG ho) (oK hG ho) (oR1 hG ho) rfl dX4_copy_22 ?_
      refine am_iload_n hz1 dX4_copy_25 2 rfl rfl ?_
      refine am_aload_n hz1 dX4_copy_26 1 rfl rfl ?_
      refine am_iload_n hz1 dX4_copy_27 2 rfl rfl ?_
      obtain ⟨g3, h⟩ := h
      refine am_iald hz1 hn_p2 hk_p2 (by rw [hl_p2]; exact g3) dX4_copy_28 ?_
      obtain ⟨g4, h⟩ := h
      refine am_iast hz1 (oN1 hG ho) (oK1 hG ho) (by rw [(oL1 hG ho)]; exact g4) dX4_copy_29 ?_
      refine am_iinc (v := v3 + 1) (lv' := [(3, .int (v3 + 1)), (0, .ref ((zB z).size + o)), (2, .ref ((zB z).size + p2))]) hz1 dX4_copy_30 2 rfl rfl rfl rfl ?_
      refine am_goto (tgt := 7) hz1 dX4_copy_33 (by decide) ?_
      exact am_sub (lv' := [(0, .ref ((zB z).size + o)), (2, .ref ((zB z).size + p2)), (3, .int (v3 + 1))]) [1, 2, 0] rfl h
set_option maxRecDepth 100000 in
set_option maxHeartbeats 4000000 in
theorem c_X4_copy {l : Launch} {D : va_G} {B : Heap} {G : amG} {I : amI} {L : amL} {o : Nat} {p2 : Nat} (hG : Lay G) (ho : isO o) (hn_p2 : p2 < gN G) (hk_p2 : gK G p2 = 50) (hl_p2 : gL G p2 = 16) (v1 : Int32) (hne0 : p2 ≠ o) (hne1 : p2 ≠ o + 1) : Fx l D B yX4_copy cX4_copy 4 none 2 [.ref (B.size + o), .int v1, .ref (B.size + p2)] G I L none (q_copy I o v1 p2) L := by
  refine Mx.of (by decide) rfl rfl (fun z e1 e2 e3 hz => ?_)
  subst e1; subst e2; subst e3
  refine b_X4_copy_0 hz hG ho hn_p2 hk_p2 hl_p2 ?_
  obtain ⟨n, hn1, h16, hn⟩ := q_sz_ok v1
  have hK : ∀ i, setI (setI I o (upd (I o) 0 (q_sz v1))) (o + 1) (q_cp (I p2) (I (o + 1)) i) o 0 = nI n := fun i => by rw [setI_n (by omega), setI_s, upd_s, hn]
  have h0 : q_begin I o v1 = setI (setI I o (upd (I o) 0 (q_sz v1))) (o + 1) (q_cp (I p2) (I (o + 1)) 0) := by
    unfold q_begin
    congr 1
  rw [h0]
  refine for_up (P := fun i => Wx z 0 0 7 [(0, .ref ((zB z).size + o)), (2, .ref ((zB z).size + p2)), (3, .int (nI i))] [] G (setI (setI I o (upd (I o) 0 (q_sz v1))) (o + 1) (q_cp (I p2) (I (o + 1)) i)) L) (n := n) ?_ ?_ (Nat.zero_le n)
  · refine b_X4_copy_7 hz hG ho hn_p2 hk_p2 hl_p2 ⟨fun _ => ⟨rfl, rfl, ?_, rfl⟩, fun h => absurd (sz_le (hK n) h16) h⟩
    rw [q_copy, hn, cl_nI (by omega)]
  · intro i hi ih
    refine b_X4_copy_7 hz hG ho hn_p2 hk_p2 hl_p2 ⟨fun h => absurd h (sz_ge (hK i) h16 hi), fun _ => ⟨fun h => absurd h (no16 h16 hi), fun _ => ⟨in16 h16 hi, in16 h16 hi, ?_⟩⟩⟩
    rw [nI_1, cl_nI (by omega), setI_ss, setI_s, setI_n hne1, setI_n hne0]
    have e : upd (q_cp (I p2) (I (o + 1)) i) i (I p2 i) = q_cp (I p2) (I (o + 1)) (i + 1) := by
      funext j
      simp only [upd, q_cp]
      by_cases h : j = i
      · subst h; simp
      · have : (j < i + 1) = (j < i) := by apply propext; omega
        simp [h, this]
    rw [e]
    exact ih
set_option maxRecDepth 100000 in
set_option maxHeartbeats 4000000 in
theorem b_X4_link_0 {z : amZ} {post : amP} {G : amG} {I : amI} {L : amL} (hz : Go z cX4_link RX4 5 none 3 0 0 post) (hG : Lay G) {o : Nat} (ho : isO o) {v1 : Int32} {v2 : Int32} (h : (szOk I o) ∧ Wx z 0 0 9 [(0, .ref ((zB z).size + o)), (1, .int v1), (3, .int (q_from I o v2)), (4, .int 0)] [] G I L) : Wx z 0 0 0 [(0, .ref ((zB z).size + o)), (1, .int v1), (2, .int v2)] [] G I L := by
  have hz1 := hz.1
  refine am_aload_n hz1 dX4_link_0 0 rfl rfl ?_
  refine am_iload_n hz1 dX4_link_1 2 rfl rfl ?_
  obtain ⟨g1, h⟩ := h
  refine am_cVf hz cv_X4_53 [.int v2] [] (c_X4_from hG ho v2 g1) (oN hG ho) (oK hG ho) rfl rfl rfl ⟨Nat.le_refl _, Nat.le_refl _⟩ (Nat.le_of_ble_eq_true rfl) dX4_link_2 ?_
  refine am_istore_n (lv' := [(3, .int (q_from I o v2)), (0, .ref ((zB z).size + o)), (1, .int v1), (2, .int v2)]) hz1 dX4_link_5 rfl rfl rfl ?_
  refine am_iconst (v := 0) hz1 dX4_link_6 (by decide) ?_
  refine am_istore (lv' := [(4, .int 0), (3, .int (q_from I o v2)), (0, .ref ((zB z).size + o)), (1, .int v1), (2, .int v2)]) hz1 dX4_link_7 rfl rfl ?_
  exact am_sub (lv' := [(0, .ref ((zB z).size + o)), (1, .int v1), (3, .int (q_from I o v2)), (4, .int 0)]) [2, 3, 1, 0] rfl h
set_option maxRecDepth 100000 in
set_option maxHeartbeats 4000000 in
theorem b_X4_link_9 {z : amZ} {post : amP} {G : amG} {I : amI} {L : amL} (hz : Go z cX4_link RX4 5 none 3 0 0 post) (hG : Lay G) {o : Nat} (ho : isO o) {v1 : Int32} {v3 : Int32} {v4 : Int32} (h : (((I o 0) ≤ v4) → post none G I L) ∧ ((¬ (I o 0) ≤ v4) → (szOk I o) ∧ ((q_atMost I o v4 v1 = false) → Wx z 0 0 9 [(0, .ref ((zB z).size + o)), (1, .int v1), (3, .int v3), (4, .int (v4 + 1))] [] G I L) ∧ ((q_atMost I o v4 v1 = true) → vp_in v4 16 ∧ vp_in v4 16 ∧ Wx z 0 0 9 [(0, .ref ((zB z).size + o)), (1, .int v1), (3, .int v3), (4, .int (v4 + 1))] [] G (setI I (o + 1) (upd (I (o + 1)) v4.toNatClampNeg ((I (o + 1) v4.toNatClampNeg) ||| v3))) L))) : Wx z 0 0 9 [(0, .ref ((zB z).size + o)), (1, .int v1), (3, .int v3), (4, .int v4)] [] G I L := by
  have hz1 := hz.1
  refine am_iload hz1 dX4_link_9 3 rfl ?_
  refine am_aload_n hz1 dX4_link_11 0 rfl rfl ?_
  refine am_getI hz1 fl_X4_9 (oN hG ho) (oK hG ho) rfl dX4_link_12 ?_
  refine am_icmp_ge (tgt := 45) hz1 dX4_link_15 (by decide) (fun c1 => ?_) (fun c1 => ?_)
  · replace h := h.1 c1
    exact am_return hz dX4_link_45 h
  · replace h := h.2 c1
    refine am_aload_n hz1 dX4_link_18 0 rfl rfl ?_
    refine am_iload hz1 dX4_link_19 3 rfl ?_
    refine am_iload_n hz1 dX4_link_21 1 rfl rfl ?_
    obtain ⟨g2, h⟩ := h
    refine am_cVf hz cv_X4_57 [.int v4, .int v1] [] (c_X4_atMost hG ho v4 v1 g2) (oN hG ho) (oK hG ho) rfl rfl rfl ⟨Nat.le_refl _, Nat.le_refl _⟩ (Nat.le_of_ble_eq_true rfl) dX4_link_22 ?_
    refine am_ifb_eq (tgt := 39) hz1 dX4_link_25 (by decide) (fun c3 => ?_) (fun c3 => ?_)
    · replace h := h.1 c3
      refine am_iinc (v := v4 + 1) (lv' := [(4, .int (v4 + 1)), (0, .ref ((zB z).size + o)), (1, .int v1), (3, .int v3)]) hz1 dX4_link_39 3 rfl rfl rfl rfl ?_
      refine am_goto (tgt := 9) hz1 dX4_link_42 (by decide) ?_
      exact am_sub (lv' := [(0, .ref ((zB z).size + o)), (1, .int v1), (3, .int v3), (4, .int (v4 + 1))]) [1, 2, 3, 0] rfl h
    · replace h := h.2 c3
      refine am_aload_n hz1 dX4_link_28 0 rfl rfl ?_
      refine am_getR hz1 fl_X4_15 (oN hG ho) (oK hG ho) (oR1 hG ho) rfl dX4_link_29 ?_
      refine am_iload hz1 dX4_link_32 3 rfl ?_
      refine am_dup2 hz1 dX4_link_34 rfl rfl ?_
      obtain ⟨g4, h⟩ := h
      refine am_iald hz1 (oN1 hG ho) (oK1 hG ho) (by rw [(oL1 hG ho)]; exact g4) dX4_link_35 ?_
      refine am_iload_n hz1 dX4_link_36 2 rfl rfl ?_
      refine am_ior hz1 dX4_link_37 ?_
      obtain ⟨g5, h⟩ := h
      refine am_iast hz1 (oN1 hG ho) (oK1 hG ho) (by rw [(oL1 hG ho)]; exact g5) dX4_link_38 ?_
      refine am_iinc (v := v4 + 1) (lv' := [(4, .int (v4 + 1)), (0, .ref ((zB z).size + o)), (1, .int v1), (3, .int v3)]) hz1 dX4_link_39 3 rfl rfl rfl rfl ?_
      refine am_goto (tgt := 9) hz1 dX4_link_42 (by decide) ?_
      exact am_sub (lv' := [(0, .ref ((zB z).size + o)), (1, .int v1), (3, .int v3), (4, .int (v4 + 1))]) [1, 2, 3, 0] rfl h
set_option maxRecDepth 100000 in
set_option maxHeartbeats 4000000 in
theorem c_X4_link {l : Launch} {D : va_G} {B : Heap} {G : amG} {I : amI} {L : amL} {o : Nat} (hG : Lay G) (ho : isO o) (v1 : Int32) (v2 : Int32) (hs : szOk I o) : Fx l D B yX4_link cX4_link 5 none 3 [.ref (B.size + o), .int v1, .int v2] G I L none (q_link I o v1 v2) L := by
  refine Mx.of (by decide) rfl rfl (fun z e1 e2 e3 hz => ?_)
  subst e1; subst e2; subst e3
  refine b_X4_link_0 hz hG ho ?_
  refine ⟨hs, ?_⟩
  obtain ⟨n, hn1, h16, hn⟩ := id hs
  have hK : ∀ i, setI I (o + 1) (q_lk I o v1 (q_from I o v2) i) o 0 = I o 0 := fun i => by rw [setI_n (by omega)]
  have h0 : I = setI I (o + 1) (q_lk I o v1 (q_from I o v2) 0) := by
    rw [show q_lk I o v1 (q_from I o v2) 0 = I (o + 1) by funext j; simp [q_lk], setI_id]
  have key : Wx z 0 0 9 [(0, .ref ((zB z).size + o)), (1, .int v1), (3, .int (q_from I o v2)), (4, .int (nI 0))] [] G (setI I (o + 1) (q_lk I o v1 (q_from I o v2) 0)) L := by
    refine for_up (P := fun i => Wx z 0 0 9 [(0, .ref ((zB z).size + o)), (1, .int v1), (3, .int (q_from I o v2)), (4, .int (nI i))] [] G (setI I (o + 1) (q_lk I o v1 (q_from I o v2) i)) L) (n := n) ?_ ?_ (Nat.zero_le n)
    · exact b_X4_link_9 hz hG ho ⟨fun _ => ⟨rfl, rfl, by rw [q_link, sz_eq hn h16], rfl⟩, fun h => absurd (sz_le ((hK n).trans hn) h16) h⟩
    · intro i hi ih
      have ea : q_atMost (setI I (o + 1) (q_lk I o v1 (q_from I o v2) i)) o (nI i) v1 = q_atMost I o (nI i) v1 := atMost_c (by omega) (hK i) (by rw [setI_s]; simp [q_lk])
      refine b_X4_link_9 hz hG ho ⟨fun h => absurd h (sz_ge ((hK i).trans hn) h16 hi), fun _ => ⟨szOk_c (hK i) hs, fun h => ?_, fun h => ⟨in16 h16 hi, in16 h16 hi, ?_⟩⟩⟩
      · rw [ea] at h
        rw [nI_1]
        have e : q_lk I o v1 (q_from I o v2) (i + 1) = q_lk I o v1 (q_from I o v2) i := by
          funext j
          simp only [q_lk]
          by_cases hj : j = i
          · subst hj; simp [h]
          · have : (j < i + 1) = (j < i) := by apply propext; omega
            simp [this]
        rw [e] at ih
        exact ih
      · rw [ea] at h
        rw [nI_1, cl_nI (by omega), setI_ss, setI_s]
        have e : upd (q_lk I o v1 (q_from I o v2) i) i (q_lk I o v1 (q_from I o v2) i i ||| q_from I o v2) = q_lk I o v1 (q_from I o v2) (i + 1) := by
          funext j
          by_cases hj : j = i
          · subst hj; rw [upd_s]; simp [q_lk, h]
          · rw [upd_n hj]
            have : (j < i + 1) = (j < i) := by apply propext; omega
            simp [q_lk, this]
        rw [e]
        exact ih
  rw [← h0] at key
  exact key
theorem rowOk_in {I : amI} {o n i : Nat} (hn : I o 0 = nI n) (h16 : n ≤ 16) (hr : rowOk I o) (hi : i < n) : vp_in (I (o + 6) i) 16 := by
  obtain ⟨x, hx, e⟩ := hr i (by rw [sz_eq hn h16]; exact hi)
  rw [sz_eq hn h16] at hx
  rw [e]
  exact in16 h16 hx
set_option maxRecDepth 100000 in
set_option maxHeartbeats 4000000 in
theorem b_X4_moebiusFrom_0 {z : amZ} {post : amP} {G : amG} {I : amI} {L : amL} (hz : Go z cX4_moebiusFrom RX4 5 none 2 0 0 post) (hG : Lay G) {o : Nat} (ho : isO o) {p2 : Nat} (hn_p2 : p2 < gN G) (hk_p2 : gK G p2 = 52) (hl_p2 : gL G p2 = 16) {v1 : Int32} (h : Wx z 0 0 2 [(0, .ref ((zB z).size + o)), (1, .int v1), (2, .ref ((zB z).size + p2)), (3, .int 0)] [] G I L) : Wx z 0 0 0 [(0, .ref ((zB z).size + o)), (1, .int v1), (2, .ref ((zB z).size + p2))] [] G I L := by
  have hz1 := hz.1
  refine am_iconst (v := 0) hz1 dX4_moebiusFrom_0 (by decide) ?_
  refine am_istore_n (lv' := [(3, .int 0), (0, .ref ((zB z).size + o)), (1, .int v1), (2, .ref ((zB z).size + p2))]) hz1 dX4_moebiusFrom_1 rfl rfl rfl ?_
  exact am_sub (lv' := [(0, .ref ((zB z).size + o)), (1, .int v1), (2, .ref ((zB z).size + p2)), (3, .int 0)]) [1, 2, 3, 0] rfl h
set_option maxRecDepth 100000 in
set_option maxHeartbeats 4000000 in
theorem b_X4_moebiusFrom_2 {z : amZ} {post : amP} {G : amG} {I : amI} {L : amL} (hz : Go z cX4_moebiusFrom RX4 5 none 2 0 0 post) (hG : Lay G) {o : Nat} (ho : isO o) {p2 : Nat} (hn_p2 : p2 < gN G) (hk_p2 : gK G p2 = 52) (hl_p2 : gL G p2 = 16) {v1 : Int32} {v3 : Int32} (h : (((I o 0) ≤ v3) → post none G I L) ∧ ((¬ (I o 0) ≤ v3) → vp_in v3 16 ∧ ((¬ (I (o + 6) v3.toNatClampNeg) = v1) → (szOk I o) ∧ vp_in (I (o + 6) v3.toNatClampNeg) 16 ∧ (szOk I o) ∧ vp_in (I (o + 6) v3.toNatClampNeg) 16 ∧ Wx z 0 0 2 [(0, .ref ((zB z).size + o)), (1, .int v1), (2, .ref ((zB z).size + p2)), (3, .int (v3 + 1))] [] G I (setL L p2 (vp_updL (L p2) (I (o + 6) v3.toNatClampNeg).toNatClampNeg (-(q_sumOf I L o p2 ((q_from I o v1) &&& (I (o + 2) (I (o + 6) v3.toNatClampNeg).toNatClampNeg))))))) ∧ (((I (o + 6) v3.toNatClampNeg) = v1) → vp_in (I (o + 6) v3.toNatClampNeg) 16 ∧ Wx z 0 0 2 [(0, .ref ((zB z).size + o)), (1, .int v1), (2, .ref ((zB z).size + p2)), (3, .int (v3 + 1))] [] G I (setL L p2 (vp_updL (L p2) (I (o + 6) v3.toNatClampNeg).toNatClampNeg (1 : Int64)))))) : Wx z 0 0 2 [(0, .ref ((zB z).size + o)), (1, .int v1), (2, .ref ((zB z).size + p2)), (3, .int v3)] [] G I L := by
  have hz1 := hz.1
  refine am_iload_n hz1 dX4_moebiusFrom_2 3 rfl rfl ?_
  refine am_aload_n hz1 dX4_moebiusFrom_3 0 rfl rfl ?_
  refine am_getI hz1 fl_X4_9 (oN hG ho) (oK hG ho) rfl dX4_moebiusFrom_4 ?_
  refine am_icmp_ge (tgt := 57) hz1 dX4_moebiusFrom_7 (by decide) (fun c1 => ?_) (fun c1 => ?_)
  · replace h := h.1 c1
    exact am_return hz dX4_moebiusFrom_57 h
  · replace h := h.2 c1
    refine am_aload_n hz1 dX4_moebiusFrom_10 0 rfl rfl ?_
    refine am_getR hz1 fl_X4_31 (oN hG ho) (oK hG ho) (oR6 hG ho) rfl dX4_moebiusFrom_11 ?_
    refine am_iload_n hz1 dX4_moebiusFrom_14 3 rfl rfl ?_
    obtain ⟨g2, h⟩ := h
    refine am_iald hz1 (oN6 hG ho) (oK6 hG ho) (by rw [(oL6 hG ho)]; exact g2) dX4_moebiusFrom_15 ?_
    refine am_istore (lv' := [(4, .int (I (o + 6) v3.toNatClampNeg)), (0, .ref ((zB z).size + o)), (1, .int v1), (2, .ref ((zB z).size + p2)), (3, .int v3)]) hz1 dX4_moebiusFrom_16 rfl rfl ?_
    refine am_aload_n hz1 dX4_moebiusFrom_18 3 rfl rfl ?_
    refine am_iload hz1 dX4_moebiusFrom_19 0 rfl ?_
    refine am_iload hz1 dX4_moebiusFrom_21 0 rfl ?_
    refine am_iload_n hz1 dX4_moebiusFrom_23 2 rfl rfl ?_
    refine am_icmp_ne (tgt := 31) hz1 dX4_moebiusFrom_24 (by decide) (fun c3 => ?_) (fun c3 => ?_)
    · replace h := h.1 c3
      refine am_aload_n hz1 dX4_moebiusFrom_31 1 rfl rfl ?_
      refine am_aload_n hz1 dX4_moebiusFrom_32 3 rfl rfl ?_
      refine am_aload_n hz1 dX4_moebiusFrom_33 1 rfl rfl ?_
      refine am_iload_n hz1 dX4_moebiusFrom_34 2 rfl rfl ?_
      obtain ⟨g4, h⟩ := h
      refine am_cVf hz cv_X4_53 [.int v1] [.ref ((zB z).size + p2), .ref ((zB z).size + o), .int (I (o + 6) v3.toNatClampNeg), .ref ((zB z).size + p2)] (c_X4_from hG ho v1 g4) (oN hG ho) (oK hG ho) rfl rfl rfl ⟨Nat.le_refl _, Nat.le_refl _⟩ (Nat.le_of_ble_eq_true rfl) dX4_moebiusFrom_35 ?_
      refine am_aload_n hz1 dX4_moebiusFrom_38 1 rfl rfl ?_
      refine am_getR hz1 fl_X4_19 (oN hG ho) (oK hG ho) (oR2 hG ho) rfl dX4_moebiusFrom_39 ?_
      refine am_iload hz1 dX4_moebiusFrom_42 0 rfl ?_
      obtain ⟨g5, h⟩ := h
      refine am_iald hz1 (oN2 hG ho) (oK2 hG ho) (by rw [(oL2 hG ho)]; exact g5) dX4_moebiusFrom_44 ?_
      refine am_iand hz1 dX4_moebiusFrom_45 ?_
      obtain ⟨g6, h⟩ := h
      refine am_cVf hz cv_X4_115 [.ref ((zB z).size + p2), .int ((q_from I o v1) &&& (I (o + 2) (I (o + 6) v3.toNatClampNeg).toNatClampNeg))] [.int (I (o + 6) v3.toNatClampNeg), .ref ((zB z).size + p2)] (c_X4_sumOf hG ho hn_p2 hk_p2 hl_p2 ((q_from I o v1) &&& (I (o + 2) (I (o + 6) v3.toNatClampNeg).toNatClampNeg)) g6) (oN hG ho) (oK hG ho) rfl rfl rfl ⟨Nat.le_refl _, Nat.le_refl _⟩ (Nat.le_of_ble_eq_true rfl) dX4_moebiusFrom_46 ?_
      refine am_lneg hz1 dX4_moebiusFrom_49 ?_
      obtain ⟨g7, h⟩ := h
      refine am_last hz1 hn_p2 hk_p2 (by rw [hl_p2]; exact g7) dX4_moebiusFrom_50 ?_
      refine am_iinc (v := v3 + 1) (lv' := [(3, .int (v3 + 1)), (4, .int (I (o + 6) v3.toNatClampNeg)), (0, .ref ((zB z).size + o)), (1, .int v1), (2, .ref ((zB z).size + p2))]) hz1 dX4_moebiusFrom_51 4 rfl rfl rfl rfl ?_
      refine am_goto (tgt := 2) hz1 dX4_moebiusFrom_54 (by decide) ?_
      exact am_sub (lv' := [(0, .ref ((zB z).size + o)), (1, .int v1), (2, .ref ((zB z).size + p2)), (3, .int (v3 + 1))]) [2, 3, 4, 0] rfl h
    · replace h := h.2 c3
      refine am_lconst (v := 1) hz1 dX4_moebiusFrom_27 (by decide) ?_
      refine am_goto (tgt := 50) hz1 dX4_moebiusFrom_28 (by decide) ?_
      obtain ⟨g8, h⟩ := h
      refine am_last hz1 hn_p2 hk_p2 (by rw [hl_p2]; exact g8) dX4_moebiusFrom_50 ?_
      refine am_iinc (v := v3 + 1) (lv' := [(3, .int (v3 + 1)), (4, .int (I (o + 6) v3.toNatClampNeg)), (0, .ref ((zB z).size + o)), (1, .int v1), (2, .ref ((zB z).size + p2))]) hz1 dX4_moebiusFrom_51 4 rfl rfl rfl rfl ?_
      refine am_goto (tgt := 2) hz1 dX4_moebiusFrom_54 (by decide) ?_
      exact am_sub (lv' := [(0, .ref ((zB z).size + o)), (1, .int v1), (2, .ref ((zB z).size + p2)), (3, .int (v3 + 1))]) [2, 3, 4, 0] rfl h
set_option maxRecDepth 100000 in
set_option maxHeartbeats 4000000 in
theorem c_X4_moebiusFrom {l : Launch} {D : va_G} {B : Heap} {G : amG} {I : amI} {L : amL} {o : Nat} {p2 : Nat} (hG : Lay G) (ho : isO o) (hn_p2 : p2 < gN G) (hk_p2 : gK G p2 = 52) (hl_p2 : gL G p2 = 16) (v1 : Int32) (hs : szOk I o) (hr : rowOk I o) : Fx l D B yX4_moebiusFrom cX4_moebiusFrom 5 none 2 [.ref (B.size + o), .int v1, .ref (B.size + p2)] G I L none I (setL L p2 (q_mf I o v1 (L p2) (sz I o))) := by
  refine Mx.of (by decide) rfl rfl (fun z e1 e2 e3 hz => ?_)
  subst e1; subst e2; subst e3
  refine b_X4_moebiusFrom_0 hz hG ho hn_p2 hk_p2 hl_p2 ?_
  obtain ⟨n, hn1, h16, hn⟩ := id hs
  have h0 : L = setL L p2 (q_mf I o v1 (L p2) 0) := by rw [q_mf, setL_id]
  have key : Wx z 0 0 2 [(0, .ref ((zB z).size + o)), (1, .int v1), (2, .ref ((zB z).size + p2)), (3, .int (nI 0))] [] G I (setL L p2 (q_mf I o v1 (L p2) 0)) := by
    refine for_up (P := fun i => Wx z 0 0 2 [(0, .ref ((zB z).size + o)), (1, .int v1), (2, .ref ((zB z).size + p2)), (3, .int (nI i))] [] G I (setL L p2 (q_mf I o v1 (L p2) i))) (n := n) ?_ ?_ (Nat.zero_le n)
    · exact b_X4_moebiusFrom_2 hz hG ho hn_p2 hk_p2 hl_p2 ⟨fun _ => ⟨rfl, rfl, rfl, by rw [sz_eq hn h16]⟩, fun h => absurd (sz_le hn h16) h⟩
    · intro i hi ih
      have hin := rowOk_in hn h16 hr hi
      refine b_X4_moebiusFrom_2 hz hG ho hn_p2 hk_p2 hl_p2 ⟨fun h => absurd h (sz_ge hn h16 hi), fun _ => ⟨in16 h16 hi, fun h => ⟨hs, ?_, hs, ?_, ?_⟩, fun h => ⟨?_, ?_⟩⟩⟩
      · rw [cl_nI (by omega)]; exact hin
      · rw [cl_nI (by omega)]; exact hin
      · rw [cl_nI (by omega)] at h
        rw [q_mf, if_neg h] at ih
        rw [nI_1, cl_nI (by omega), setL_ss, setL_s, q_sumOf, setL_s]
        exact ih
      · rw [cl_nI (by omega)]; exact hin
      · rw [cl_nI (by omega)] at h
        rw [q_mf, if_pos h] at ih
        rw [nI_1, cl_nI (by omega), setL_ss, setL_s]
        exact ih
  rw [← h0] at key
  exact key
theorem i_dn (m : Nat) : nI m + (-1) = nI m - 1 := by
  apply Int32.toBitVec_inj.1
  simp [Int32.toBitVec_add, Int32.toBitVec_sub, BitVec.sub_eq_add_neg]
theorem i_neg : nI 0 - 1 < 0 := by decide
theorem i_nneg {m : Nat} (h : m < 2 ^ 31) : ¬ nI (m + 1) - 1 < 0 := by rw [nI_pred]; exact nI_pos h
set_option maxRecDepth 100000 in
set_option maxHeartbeats 4000000 in
theorem b_X4_moebiusTo_0 {z : amZ} {post : amP} {G : amG} {I : amI} {L : amL} (hz : Go z cX4_moebiusTo RX4 5 none 2 0 0 post) (hG : Lay G) {o : Nat} (ho : isO o) {p2 : Nat} (hn_p2 : p2 < gN G) (hk_p2 : gK G p2 = 52) (hl_p2 : gL G p2 = 16) {v1 : Int32} (h : Wx z 0 0 7 [(0, .ref ((zB z).size + o)), (1, .int v1), (2, .ref ((zB z).size + p2)), (3, .int ((I o 0) - (1 : Int32)))] [] G I L) : Wx z 0 0 0 [(0, .ref ((zB z).size + o)), (1, .int v1), (2, .ref ((zB z).size + p2))] [] G I L := by
  have hz1 := hz.1
  refine am_aload_n hz1 dX4_moebiusTo_0 0 rfl rfl ?_
  refine am_getI hz1 fl_X4_9 (oN hG ho) (oK hG ho) rfl dX4_moebiusTo_1 ?_
  refine am_iconst (v := 1) hz1 dX4_moebiusTo_4 (by decide) ?_
  refine am_isub hz1 dX4_moebiusTo_5 ?_
  refine am_istore_n (lv' := [(3, .int ((I o 0) - (1 : Int32))), (0, .ref ((zB z).size + o)), (1, .int v1), (2, .ref ((zB z).size + p2))]) hz1 dX4_moebiusTo_6 rfl rfl rfl ?_
  exact am_sub (lv' := [(0, .ref ((zB z).size + o)), (1, .int v1), (2, .ref ((zB z).size + p2)), (3, .int ((I o 0) - (1 : Int32)))]) [1, 2, 3, 0] rfl h
set_option maxRecDepth 100000 in
set_option maxHeartbeats 4000000 in
theorem b_X4_moebiusTo_7 {z : amZ} {post : amP} {G : amG} {I : amI} {L : amL} (hz : Go z cX4_moebiusTo RX4 5 none 2 0 0 post) (hG : Lay G) {o : Nat} (ho : isO o) {p2 : Nat} (hn_p2 : p2 < gN G) (hk_p2 : gK G p2 = 52) (hl_p2 : gL G p2 = 16) {v1 : Int32} {v3 : Int32} (h : ((v3 < 0) → post none G I L) ∧ ((¬ v3 < 0) → vp_in v3 16 ∧ ((¬ (I (o + 6) v3.toNatClampNeg) = v1) → (szOk I o) ∧ vp_in (I (o + 6) v3.toNatClampNeg) 16 ∧ (szOk I o) ∧ vp_in (I (o + 6) v3.toNatClampNeg) 16 ∧ Wx z 0 0 7 [(0, .ref ((zB z).size + o)), (1, .int v1), (2, .ref ((zB z).size + p2)), (3, .int (v3 + (-1)))] [] G I (setL L p2 (vp_updL (L p2) (I (o + 6) v3.toNatClampNeg).toNatClampNeg (-(q_sumOf I L o p2 ((q_upTo I o v1) &&& (I (o + 1) (I (o + 6) v3.toNatClampNeg).toNatClampNeg))))))) ∧ (((I (o + 6) v3.toNatClampNeg) = v1) → vp_in (I (o + 6) v3.toNatClampNeg) 16 ∧ Wx z 0 0 7 [(0, .ref ((zB z).size + o)), (1, .int v1), (2, .ref ((zB z).size + p2)), (3, .int (v3 + (-1)))] [] G I (setL L p2 (vp_updL (L p2) (I (o + 6) v3.toNatClampNeg).toNatClampNeg (1 : Int64)))))) : Wx z 0 0 7 [(0, .ref ((zB z).size + o)), (1, .int v1), (2, .ref ((zB z).size + p2)), (3, .int v3)] [] G I L := by
  have hz1 := hz.1
  refine am_iload_n hz1 dX4_moebiusTo_7 3 rfl rfl ?_
  refine am_if_lt (tgt := 58) hz1 dX4_moebiusTo_8 (by decide) (fun c1 => ?_) (fun c1 => ?_)
  · replace h := h.1 c1
    exact am_return hz dX4_moebiusTo_58 h
  · replace h := h.2 c1
    refine am_aload_n hz1 dX4_moebiusTo_11 0 rfl rfl ?_
    refine am_getR hz1 fl_X4_31 (oN hG ho) (oK hG ho) (oR6 hG ho) rfl dX4_moebiusTo_12 ?_
    refine am_iload_n hz1 dX4_moebiusTo_15 3 rfl rfl ?_
    obtain ⟨g2, h⟩ := h
    refine am_iald hz1 (oN6 hG ho) (oK6 hG ho) (by rw [(oL6 hG ho)]; exact g2) dX4_moebiusTo_16 ?_
    refine am_istore (lv' := [(4, .int (I (o + 6) v3.toNatClampNeg)), (0, .ref ((zB z).size + o)), (1, .int v1), (2, .ref ((zB z).size + p2)), (3, .int v3)]) hz1 dX4_moebiusTo_17 rfl rfl ?_
    refine am_aload_n hz1 dX4_moebiusTo_19 3 rfl rfl ?_
    refine am_iload hz1 dX4_moebiusTo_20 0 rfl ?_
    refine am_iload hz1 dX4_moebiusTo_22 0 rfl ?_
    refine am_iload_n hz1 dX4_moebiusTo_24 2 rfl rfl ?_
    refine am_icmp_ne (tgt := 32) hz1 dX4_moebiusTo_25 (by decide) (fun c3 => ?_) (fun c3 => ?_)
    · replace h := h.1 c3
      refine am_aload_n hz1 dX4_moebiusTo_32 1 rfl rfl ?_
      refine am_aload_n hz1 dX4_moebiusTo_33 3 rfl rfl ?_
      refine am_aload_n hz1 dX4_moebiusTo_34 1 rfl rfl ?_
      refine am_iload_n hz1 dX4_moebiusTo_35 2 rfl rfl ?_
      obtain ⟨g4, h⟩ := h
      refine am_cVf hz cv_X4_103 [.int v1] [.ref ((zB z).size + p2), .ref ((zB z).size + o), .int (I (o + 6) v3.toNatClampNeg), .ref ((zB z).size + p2)] (c_X4_upTo hG ho v1 g4) (oN hG ho) (oK hG ho) rfl rfl rfl ⟨Nat.le_refl _, Nat.le_refl _⟩ (Nat.le_of_ble_eq_true rfl) dX4_moebiusTo_36 ?_
      refine am_aload_n hz1 dX4_moebiusTo_39 1 rfl rfl ?_
      refine am_getR hz1 fl_X4_15 (oN hG ho) (oK hG ho) (oR1 hG ho) rfl dX4_moebiusTo_40 ?_
      refine am_iload hz1 dX4_moebiusTo_43 0 rfl ?_
      obtain ⟨g5, h⟩ := h
      refine am_iald hz1 (oN1 hG ho) (oK1 hG ho) (by rw [(oL1 hG ho)]; exact g5) dX4_moebiusTo_45 ?_
      refine am_iand hz1 dX4_moebiusTo_46 ?_
      obtain ⟨g6, h⟩ := h
      refine am_cVf hz cv_X4_115 [.ref ((zB z).size + p2), .int ((q_upTo I o v1) &&& (I (o + 1) (I (o + 6) v3.toNatClampNeg).toNatClampNeg))] [.int (I (o + 6) v3.toNatClampNeg), .ref ((zB z).size + p2)] (c_X4_sumOf hG ho hn_p2 hk_p2 hl_p2 ((q_upTo I o v1) &&& (I (o + 1) (I (o + 6) v3.toNatClampNeg).toNatClampNeg)) g6) (oN hG ho) (oK hG ho) rfl rfl rfl ⟨Nat.le_refl _, Nat.le_refl _⟩ (Nat.le_of_ble_eq_true rfl) dX4_moebiusTo_47 ?_
      refine am_lneg hz1 dX4_moebiusTo_50 ?_
      obtain ⟨g7, h⟩ := h
      refine am_last hz1 hn_p2 hk_p2 (by rw [hl_p2]; exact g7) dX4_moebiusTo_51 ?_
      refine am_iinc (v := v3 + (-1)) (lv' := [(3, .int (v3 + (-1))), (4, .int (I (o + 6) v3.toNatClampNeg)), (0, .ref ((zB z).size + o)), (1, .int v1), (2, .ref ((zB z).size + p2))]) hz1 dX4_moebiusTo_52 4 rfl rfl rfl rfl ?_
      refine am_goto (tgt := 7) hz1 dX4_moebiusTo_55 (by decide) ?_
      exact am_sub (lv' := [(0, .ref ((zB z).size + o)), (1, .int v1), (2, .ref ((zB z).size + p2)), (3, .int (v3 + (-1)))]) [2, 3, 4, 0] rfl h
    · replace h := h.2 c3
      refine am_lconst (v := 1) hz1 dX4_moebiusTo_28 (by decide) ?_
      refine am_goto (tgt := 51) hz1 dX4_moebiusTo_29 (by decide) ?_
      obtain ⟨g8, h⟩ := h
      refine am_last hz1 hn_p2 hk_p2 (by rw [hl_p2]; exact g8) dX4_moebiusTo_51 ?_
      refine am_iinc (v := v3 + (-1)) (lv' := [(3, .int (v3 + (-1))), (4, .int (I (o + 6) v3.toNatClampNeg)), (0, .ref ((zB z).size + o)), (1, .int v1), (2, .ref ((zB z).size + p2))]) hz1 dX4_moebiusTo_52 4 rfl rfl rfl rfl ?_
      refine am_goto (tgt := 7) hz1 dX4_moebiusTo_55 (by decide) ?_
      exact am_sub (lv' := [(0, .ref ((zB z).size + o)), (1, .int v1), (2, .ref ((zB z).size + p2)), (3, .int (v3 + (-1)))]) [2, 3, 4, 0] rfl h
set_option maxRecDepth 100000 in
set_option maxHeartbeats 4000000 in
theorem c_X4_moebiusTo {l : Launch} {D : va_G} {B : Heap} {G : amG} {I : amI} {L : amL} {o : Nat} {p2 : Nat} (hG : Lay G) (ho : isO o) (hn_p2 : p2 < gN G) (hk_p2 : gK G p2 = 52) (hl_p2 : gL G p2 = 16) (v1 : Int32) (hs : szOk I o) (hr : rowOk I o) : Fx l D B yX4_moebiusTo cX4_moebiusTo 5 none 2 [.ref (B.size + o), .int v1, .ref (B.size + p2)] G I L none I (setL L p2 (q_mt I o v1 (L p2) (sz I o))) := by
  refine Mx.of (by decide) rfl rfl (fun z e1 e2 e3 hz => ?_)
  subst e1; subst e2; subst e3
  refine b_X4_moebiusTo_0 hz hG ho hn_p2 hk_p2 hl_p2 ?_
  obtain ⟨n, hn1, h16, hn⟩ := id hs
  have h0 : L = setL L p2 (q_mtk I o v1 (L p2) n (n - n)) := by rw [Nat.sub_self, q_mtk, setL_id]
  have key : ∀ m, m ≤ n → Wx z 0 0 7 [(0, .ref ((zB z).size + o)), (1, .int v1), (2, .ref ((zB z).size + p2)), (3, .int (nI m - 1))] [] G I (setL L p2 (q_mtk I o v1 (L p2) n (n - m))) := by
    intro m
    induction m with
    | zero =>
      intro _
      exact b_X4_moebiusTo_7 hz hG ho hn_p2 hk_p2 hl_p2 ⟨fun _ => ⟨rfl, rfl, rfl, by rw [q_mt, sz_eq hn h16, Nat.sub_zero]⟩, fun h => absurd i_neg h⟩
    | succ m ih =>
      intro hm
      have ih := ih (by omega)
      have hin := rowOk_in hn h16 hr (show m < n by omega)
      rw [show n - m = (n - (m + 1)) + 1 by omega, q_mtk, show n - 1 - (n - (m + 1)) = m by omega] at ih
      refine b_X4_moebiusTo_7 hz hG ho hn_p2 hk_p2 hl_p2 ⟨fun h => absurd h (i_nneg (by omega)), fun _ => ?_⟩
      rw [nI_pred, cl_nI (by omega), i_dn]
      refine ⟨in_nI (by omega) (by decide), fun h => ⟨hs, hin, hs, hin, ?_⟩, fun h => ⟨hin, ?_⟩⟩
      · rw [if_neg h] at ih
        rw [setL_ss, setL_s, q_sumOf, setL_s]
        exact ih
      · rw [if_pos h] at ih
        rw [setL_ss, setL_s]
        exact ih
  have k0 := key n (Nat.le_refl _)
  rw [← h0, ← hn] at k0
  exact k0
set_option maxRecDepth 100000 in
set_option maxHeartbeats 4000000 in
theorem b_X4_deriveBeneath_0 {z : amZ} {post : amP} {G : amG} {I : amI} {L : amL} (hz : Go z cX4_deriveBeneath RX4 3 none 1 0 0 post) (hG : Lay G) {o : Nat} (ho : isO o)  (h : Wx z 0 0 10 [(0, .ref ((zB z).size + o)), (1, .int 0)] [] G (setI I (o + 2) (q_fill (I (o + 2)) 16 (0 : Int32))) L) : Wx z 0 0 0 [(0, .ref ((zB z).size + o))] [] G I L := by
  have hz1 := hz.1
  refine am_aload_n hz1 dX4_deriveBeneath_0 0 rfl rfl ?_
  refine am_getR hz1 fl_X4_19 (oN hG ho) (oK hG ho) (oR2 hG ho) rfl dX4_deriveBeneath_1 ?_
  refine am_iconst (v := 0) hz1 dX4_deriveBeneath_4 (by decide) ?_
  refine am_cSf hz ct_X4_43 [.ref ((zB z).size + (o + 2)), .int 0] [] (c_J7_fill_53178 hG (oN2 hG ho) (oK2 hG ho) (oL2 hG ho) (0 : Int32) (by decide)) rfl rfl rfl ⟨Nat.le_refl _, Nat.le_refl _⟩ (Nat.le_of_ble_eq_true rfl) dX4_deriveBeneath_5 ?_
  refine am_iconst (v := 0) hz1 dX4_deriveBeneath_8 (by decide) ?_
  refine am_istore_n (lv' := [(1, .int 0), (0, .ref ((zB z).size + o))]) hz1 dX4_deriveBeneath_9 rfl rfl rfl ?_
  exact am_sub (lv' := [(0, .ref ((zB z).size + o)), (1, .int 0)]) [1, 0] rfl h
set_option maxRecDepth 100000 in
set_option maxHeartbeats 4000000 in
theorem b_X4_deriveBeneath_10 {z : amZ} {post : amP} {G : amG} {I : amI} {L : amL} (hz : Go z cX4_deriveBeneath RX4 3 none 1 0 0 post) (hG : Lay G) {o : Nat} (ho : isO o) {v1 : Int32} (h : (((I o 0) ≤ v1) → post none G I L) ∧ ((¬ (I o 0) ≤ v1) → Wx z 0 0 20 [(0, .ref ((zB z).size + o)), (1, .int v1), (2, .int 0)] [] G I L)) : Wx z 0 0 10 [(0, .ref ((zB z).size + o)), (1, .int v1)] [] G I L := by
  have hz1 := hz.1
  refine am_iload_n hz1 dX4_deriveBeneath_10 1 rfl rfl ?_
  refine am_aload_n hz1 dX4_deriveBeneath_11 0 rfl rfl ?_
  refine am_getI hz1 fl_X4_9 (oN hG ho) (oK hG ho) rfl dX4_deriveBeneath_12 ?_
  refine am_icmp_ge (tgt := 66) hz1 dX4_deriveBeneath_15 (by decide) (fun c1 => ?_) (fun c1 => ?_)
  · replace h := h.1 c1
    exact am_return hz dX4_deriveBeneath_66 h
  · replace h := h.2 c1
    refine am_iconst (v := 0) hz1 dX4_deriveBeneath_18 (by decide) ?_
    refine am_istore_n (lv' := [(2, .int 0), (0, .ref ((zB z).size + o)), (1, .int v1)]) hz1 dX4_deriveBeneath_19 rfl rfl rfl ?_
    exact am_sub (lv' := [(0, .ref ((zB z).size + o)), (1, .int v1), (2, .int 0)]) [1, 2, 0] rfl h
set_option maxRecDepth 100000 in
set_option maxHeartbeats 4000000 in
theorem b_X4_deriveBeneath_20 {z : amZ} {post : amP} {G : amG} {I : amI} {L : amL} (hz : Go z cX4_deriveBeneath RX4 3 none 1 0 0 post) (hG : Lay G) {o : Nat} (ho : isO o) {v1 : Int32} {v2 : Int32} (h : (((I o 0) ≤ v2) → Wx z 0 0 10 [(0, .ref ((zB z).size + o)), (1, .int (v1 + 1))] [] G I L) ∧ ((¬ (I o 0) ≤ v2) → vp_in v1 16 ∧ ((¬ (((I (o + 1) v1.toNatClampNeg) >>> (v2 &&& 31)) &&& (1 : Int32)) = (1 : Int32)) → Wx z 0 0 20 [(0, .ref ((zB z).size + o)), (1, .int v1), (2, .int (v2 + 1))] [] G I L) ∧ (((((I (o + 1) v1.toNatClampNeg) >>> (v2 &&& 31)) &&& (1 : Int32)) = (1 : Int32)) → vp_in v2 16 ∧ vp_in v2 16 ∧ Wx z 0 0 20 [(0, .ref ((zB z).size + o)), (1, .int v1), (2, .int (v2 + 1))] [] G (setI I (o + 2) (upd (I (o + 2)) v2.toNatClampNeg ((I (o + 2) v2.toNatClampNeg) ||| ((1 : Int32) <<< (v1 &&& 31))))) L))) : Wx z 0 0 20 [(0, .ref ((zB z).size + o)), (1, .int v1), (2, .int v2)] [] G I L := by
  have hz1 := hz.1
  refine am_iload_n hz1 dX4_deriveBeneath_20 2 rfl rfl ?_
  refine am_aload_n hz1 dX4_deriveBeneath_21 0 rfl rfl ?_
  refine am_getI hz1 fl_X4_9 (oN hG ho) (oK hG ho) rfl dX4_deriveBeneath_22 ?_
  refine am_icmp_ge (tgt := 60) hz1 dX4_deriveBeneath_25 (by decide) (fun c1 => ?_) (fun c1 => ?_)
  · replace h := h.1 c1
    refine am_iinc (v := v1 + 1) (lv' := [(1, .int (v1 + 1)), (0, .ref ((zB z).size + o)), (2, .int v2)]) hz1 dX4_deriveBeneath_60 1 rfl rfl rfl rfl ?_
    refine am_goto (tgt := 10) hz1 dX4_deriveBeneath_63 (by decide) ?_
    exact am_sub (lv' := [(0, .ref ((zB z).size + o)), (1, .int (v1 + 1))]) [1, 0] rfl h
  · replace h := h.2 c1
    refine am_aload_n hz1 dX4_deriveBeneath_28 0 rfl rfl ?_
    refine am_getR hz1 fl_X4_15 (oN hG ho) (oK hG ho) (oR1 hG ho) rfl dX4_deriveBeneath_29 ?_
    refine am_iload_n hz1 dX4_deriveBeneath_32 1 rfl rfl ?_
    obtain ⟨g2, h⟩ := h
    refine am_iald hz1 (oN1 hG ho) (oK1 hG ho) (by rw [(oL1 hG ho)]; exact g2) dX4_deriveBeneath_33 ?_
    refine am_iload_n hz1 dX4_deriveBeneath_34 2 rfl rfl ?_
    refine am_ishr hz1 dX4_deriveBeneath_35 ?_
    refine am_iconst (v := 1) hz1 dX4_deriveBeneath_36 (by decide) ?_
    refine am_iand hz1 dX4_deriveBeneath_37 ?_
    refine am_iconst (v := 1) hz1 dX4_deriveBeneath_38 (by decide) ?_
    refine am_icmp_ne (tgt := 54) hz1 dX4_deriveBeneath_39 (by decide) (fun c3 => ?_) (fun c3 => ?_)
    · replace h := h.1 c3
      refine am_iinc (v := v2 + 1) (lv' := [(2, .int (v2 + 1)), (0, .ref ((zB z).size + o)), (1, .int v1)]) hz1 dX4_deriveBeneath_54 2 rfl rfl rfl rfl ?_
      refine am_goto (tgt := 20) hz1 dX4_deriveBeneath_57 (by decide) ?_
      exact am_sub (lv' := [(0, .ref ((zB z).size + o)), (1, .int v1), (2, .int (v2 + 1))]) [1, 2, 0] rfl h
    · replace h := h.2 c3
      refine am_aload_n hz1 dX4_deriveBeneath_42 0 rfl rfl ?_
      refine am_getR hz1 fl_X4_19 (oN hG ho) (oK hG ho) (oR2 hG ho) rfl dX4_deriveBeneath_43 ?_
      refine am_iload_n hz1 dX4_deriveBeneath_46 2 rfl rfl ?_
      refine am_dup2 hz1 dX4_deriveBeneath_47 rfl rfl ?_
      obtain ⟨g4, h⟩ := h
      refine am_iald hz1 (oN2 hG ho) (oK2 hG ho) (by rw [(oL2 hG ho)]; exact g4) dX4_deriveBeneath_48 ?_
      refine am_iconst (v := 1) hz1 dX4_deriveBeneath_49 (by decide) ?_
      refine am_iload_n hz1 dX4_deriveBeneath_50 1 rfl rfl ?_
      refine am_ishl hz1 dX4_deriveBeneath_51 ?_
      refine am_ior hz1 dX4_deriveBeneath_52 ?_
      obtain ⟨g5, h⟩ := h
      refine am_iast hz1 (oN2 hG ho) (oK2 hG ho) (by rw [(oL2 hG ho)]; exact g5) dX4_deriveBeneath_53 ?_
      refine am_iinc (v := v2 + 1) (lv' := [(2, .int (v2 + 1)), (0, .ref ((zB z).size + o)), (1, .int v1)]) hz1 dX4_deriveBeneath_54 2 rfl rfl rfl rfl ?_
      refine am_goto (tgt := 20) hz1 dX4_deriveBeneath_57 (by decide) ?_
      exact am_sub (lv' := [(0, .ref ((zB z).size + o)), (1, .int v1), (2, .int (v2 + 1))]) [1, 2, 0] rfl h
set_option maxRecDepth 100000 in
set_option maxHeartbeats 4000000 in
theorem c_X4_deriveBeneath {l : Launch} {D : va_G} {B : Heap} {G : amG} {I : amI} {L : amL} {o : Nat} (hG : Lay G) (ho : isO o)  (hs : szOk I o) : Fx l D B yX4_deriveBeneath cX4_deriveBeneath 3 none 1 [.ref (B.size + o)] G I L none (q_dB I o (sz I o) 0) L := by
  refine Mx.of (by decide) rfl rfl (fun z e1 e2 e3 hz => ?_)
  subst e1; subst e2; subst e3
  refine b_X4_deriveBeneath_0 hz hG ho ?_
  obtain ⟨n, hn1, h16, hn⟩ := id hs
  have hz0 : sz I o = n := sz_eq hn h16
  have hK : ∀ x y, q_dB I o x y o 0 = nI n := fun x y => by rw [q_dB, setI_n (by omega), hn]
  have hA : ∀ x y, q_dB I o x y (o + 1) = I (o + 1) := fun x y => by rw [q_dB, setI_n (by omega)]
  have e0 : setI I (o + 2) (q_fill (I (o + 2)) 16 0) = q_dB I o 0 0 := by
    unfold q_dB
    congr 1
    funext j
    simp only [q_fill, hz0]
    by_cases h : j < n
    · simp [h, show j < 16 by omega, mkset]
    · simp [h]
  have eN : ∀ x, q_dB I o x n = q_dB I o (x + 1) 0 := by
    intro x
    unfold q_dB
    congr 1
    funext j
    by_cases h : j < n
    · simp [h, hz0]
    · simp [h, hz0]
  rw [e0]
  refine for_up (P := fun i => Wx z 0 0 10 [(0, .ref ((zB z).size + o)), (1, .int (nI i))] [] G (q_dB I o i 0) L) (n := n) ?_ ?_ (Nat.zero_le n)
  · exact b_X4_deriveBeneath_10 hz hG ho ⟨fun _ => ⟨rfl, rfl, by rw [hz0], rfl⟩, fun h => absurd (sz_le (hK n 0) h16) h⟩
  · intro i hi ih
    refine b_X4_deriveBeneath_10 hz hG ho ⟨fun h => absurd h (sz_ge (hK i 0) h16 hi), fun _ => ?_⟩
    refine for_up (P := fun j => Wx z 0 0 20 [(0, .ref ((zB z).size + o)), (1, .int (nI i)), (2, .int (nI j))] [] G (q_dB I o i j) L) (n := n) ?_ ?_ (Nat.zero_le n)
    · refine b_X4_deriveBeneath_20 hz hG ho ⟨fun _ => ?_, fun h => absurd (sz_le (hK i n) h16) h⟩
      rw [nI_1, eN]
      exact ih
    · intro j hj jh
      refine b_X4_deriveBeneath_20 hz hG ho ⟨fun h => absurd h (sz_ge (hK i j) h16 hj), fun _ => ⟨in16 h16 hi, fun h => ?_, fun h => ⟨in16 h16 hj, in16 h16 hj, ?_⟩⟩⟩
      · rw [hA, cl_nI (by omega)] at h
        have hb := (b_bit0 _ j (by omega)).mp h
        have e : q_dB I o i (j + 1) = q_dB I o i j := by
          unfold q_dB
          congr 1
          funext w
          by_cases hw : w = j
          · subst hw; simp [hb, mkset]
          · have : (w < j + 1) = (w < j) := by apply propext; omega
            simp [this]
        rw [e] at jh
        rw [nI_1]
        exact jh
      · rw [hA, cl_nI (by omega)] at h
        have hb := (b_bit _ j (by omega)).mp h
        rw [nI_1, cl_nI (by omega)]
        have e : setI (q_dB I o i j) (o + 2) (upd (q_dB I o i j (o + 2)) j (q_dB I o i j (o + 2) j ||| ((1 : Int32) <<< (nI i &&& 31)))) = q_dB I o i (j + 1) := by
          unfold q_dB
          rw [setI_ss, setI_s]
          congr 1
          funext w
          by_cases hw : w = j
          · subst hw; rw [upd_s]; simp [hb, mkset, hz0, hj]
          · rw [upd_n hw]
            have : (w < j + 1) = (w < j) := by apply propext; omega
            simp [this]
        rw [e]
        exact jh
set_option maxRecDepth 100000 in
set_option maxHeartbeats 4000000 in
theorem b_X4_deriveCovers_0 {z : amZ} {post : amP} {G : amG} {I : amI} {L : amL} (hz : Go z cX4_deriveCovers RX4 3 none 1 0 0 post) (hG : Lay G) {o : Nat} (ho : isO o)  (h : Wx z 0 0 18 [(0, .ref ((zB z).size + o)), (1, .int 0)] [] G (setI (setI I (o + 3) (q_fill (I (o + 3)) 16 (0 : Int32))) (o + 4) (q_fill ((setI I (o + 3) (q_fill (I (o + 3)) 16 (0 : Int32))) (o + 4)) 16 (0 : Int32))) L) : Wx z 0 0 0 [(0, .ref ((zB z).size + o))] [] G I L := by
  have hz1 := hz.1
  refine am_aload_n hz1 dX4_deriveCovers_0 0 rfl rfl ?_
  refine am_getR hz1 fl_X4_22 (oN hG ho) (oK hG ho) (oR3 hG ho) rfl dX4_deriveCovers_1 ?_
  refine am_iconst (v := 0) hz1 dX4_deriveCovers_4 (by decide) ?_
  refine am_cSf hz ct_X4_43 [.ref ((zB z).size + (o + 3)), .int 0] [] (c_J7_fill_53178 hG (oN3 hG ho) (oK3 hG ho) (oL3 hG ho) (0 : Int32) (by decide)) rfl rfl rfl ⟨Nat.le_refl _, Nat.le_refl _⟩ (Nat.le_of_ble_eq_true rfl) dX4_deriveCovers_5 ?_
  refine am_aload_n hz1 dX4_deriveCovers_8 0 rfl rfl ?_
  refine am_getR hz1 fl_X4_25 (oN hG ho) (oK hG ho) (oR4 hG ho) rfl dX4_deriveCovers_9 ?_
  refine am_iconst (v := 0) hz1 dX4_deriveCovers_12 (by decide) ?_
  refine am_cSf hz ct_X4_43 [.ref ((zB z).size + (o + 4)), .int 0] [] (c_J7_fill_53178 hG (oN4 hG ho) (oK4 hG ho) (oL4 hG ho) (0 : Int32) (by decide)) rfl rfl rfl ⟨Nat.le_refl _, Nat.le_refl _⟩ (Nat.le_of_ble_eq_true rfl) dX4_deriveCovers_13 ?_
  refine am_iconst (v := 0) hz1 dX4_deriveCovers_16 (by decide) ?_
  refine am_istore_n (lv' := [(1, .int 0), (0, .ref ((zB z).size + o))]) hz1 dX4_deriveCovers_17 rfl rfl rfl ?_
  exact am_sub (lv' := [(0, .ref ((zB z).size + o)), (1, .int 0)]) [1, 0] rfl h
set_option maxRecDepth 100000 in
set_option maxHeartbeats 4000000 in
theorem b_X4_deriveCovers_18 {z : amZ} {post : amP} {G : amG} {I : amI} {L : amL} (hz : Go z cX4_deriveCovers RX4 3 none 1 0 0 post) (hG : Lay G) {o : Nat} (ho : isO o) {v1 : Int32} (h : (((I o 0) ≤ v1) → post none G I L) ∧ ((¬ (I o 0) ≤ v1) → Wx z 0 0 28 [(0, .ref ((zB z).size + o)), (1, .int v1), (2, .int 0)] [] G I L)) : Wx z 0 0 18 [(0, .ref ((zB z).size + o)), (1, .int v1)] [] G I L := by
  have hz1 := hz.1
  refine am_iload_n hz1 dX4_deriveCovers_18 1 rfl rfl ?_
  refine am_aload_n hz1 dX4_deriveCovers_19 0 rfl rfl ?_
  refine am_getI hz1 fl_X4_9 (oN hG ho) (oK hG ho) rfl dX4_deriveCovers_20 ?_
  refine am_icmp_ge (tgt := 102) hz1 dX4_deriveCovers_23 (by decide) (fun c1 => ?_) (fun c1 => ?_)
  · replace h := h.1 c1
    exact am_return hz dX4_deriveCovers_102 h
  · replace h := h.2 c1
    refine am_iconst (v := 0) hz1 dX4_deriveCovers_26 (by decide) ?_
    refine am_istore_n (lv' := [(2, .int 0), (0, .ref ((zB z).size + o)), (1, .int v1)]) hz1 dX4_deriveCovers_27 rfl rfl rfl ?_
    exact am_sub (lv' := [(0, .ref ((zB z).size + o)), (1, .int v1), (2, .int 0)]) [1, 2, 0] rfl h
set_option maxRecDepth 100000 in
set_option maxHeartbeats 4000000 in
theorem b_X4_deriveCovers_28 {z : amZ} {post : amP} {G : amG} {I : amI} {L : amL} (hz : Go z cX4_deriveCovers RX4 3 none 1 0 0 post) (hG : Lay G) {o : Nat} (ho : isO o) {v1 : Int32} {v2 : Int32} (h : (((I o 0) ≤ v2) → Wx z 0 0 18 [(0, .ref ((zB z).size + o)), (1, .int (v1 + 1))] [] G I L) ∧ ((¬ (I o 0) ≤ v2) → vp_in v1 16 ∧ ((¬ (((I (o + 1) v1.toNatClampNeg) >>> (v2 &&& 31)) &&& (1 : Int32)) = (1 : Int32)) → Wx z 0 0 28 [(0, .ref ((zB z).size + o)), (1, .int v1), (2, .int (v2 + 1))] [] G I L) ∧ (((((I (o + 1) v1.toNatClampNeg) >>> (v2 &&& 31)) &&& (1 : Int32)) = (1 : Int32)) → vp_in v1 16 ∧ vp_in v2 16 ∧ ((¬ ((I (o + 1) v1.toNatClampNeg) &&& (I (o + 2) v2.toNatClampNeg)) = 0) → Wx z 0 0 28 [(0, .ref ((zB z).size + o)), (1, .int v1), (2, .int (v2 + 1))] [] G I L) ∧ ((((I (o + 1) v1.toNatClampNeg) &&& (I (o + 2) v2.toNatClampNeg)) = 0) → vp_in v1 16 ∧ vp_in v1 16 ∧ vp_in v2 16 ∧ vp_in v2 16 ∧ Wx z 0 0 28 [(0, .ref ((zB z).size + o)), (1, .int v1), (2, .int (v2 + 1))] [] G (setI (setI I (o + 3) (upd (I (o + 3)) v1.toNatClampNeg ((I (o + 3) v1.toNatClampNeg) ||| ((1 : Int32) <<< (v2 &&& 31))))) (o + 4) (upd ((setI I (o + 3) (upd (I (o + 3)) v1.toNatClampNeg ((I (o + 3) v1.toNatClampNeg) ||| ((1 : Int32) <<< (v2 &&& 31))))) (o + 4)) v2.toNatClampNeg (((setI I (o + 3) (upd (I (o + 3)) v1.toNatClampNeg ((I (o + 3) v1.toNatClampNeg) ||| ((1 : Int32) <<< (v2 &&& 31))))) (o + 4) v2.toNatClampNeg) ||| ((1 : Int32) <<< (v1 &&& 31))))) L)))) : Wx z 0 0 28 [(0, .ref ((zB z).size + o)), (1, .int v1), (2, .int v2)] [] G I L := by
  have hz1 := hz.1
  refine am_iload_n hz1 dX4_deriveCovers_28 2 rfl rfl ?_
  refine am_aload_n hz1 dX4_deriveCovers_29 0 rfl rfl ?_
  refine am_getI hz1 fl_X4_9 (oN hG ho) (oK hG ho) rfl dX4_deriveCovers_30 ?_
  refine am_icmp_ge (tgt := 96) hz1 dX4_deriveCovers_33 (by decide) (fun c1 => ?_) (fun c1 => ?_)
  · replace h := h.1 c1
    refine am_iinc (v := v1 + 1) (lv' := [(1, .int (v1 + 1)), (0, .ref ((zB z).size + o)), (2, .int v2)]) hz1 dX4_deriveCovers_96 1 rfl rfl rfl rfl ?_
    refine am_goto (tgt := 18) hz1 dX4_deriveCovers_99 (by decide) ?_
    exact am_sub (lv' := [(0, .ref ((zB z).size + o)), (1, .int (v1 + 1))]) [1, 0] rfl h
  · replace h := h.2 c1
    refine am_aload_n hz1 dX4_deriveCovers_36 0 rfl rfl ?_
    refine am_getR hz1 fl_X4_15 (oN hG ho) (oK hG ho) (oR1 hG ho) rfl dX4_deriveCovers_37 ?_
    refine am_iload_n hz1 dX4_deriveCovers_40 1 rfl rfl ?_
    obtain ⟨g2, h⟩ := h
    refine am_iald hz1 (oN1 hG ho) (oK1 hG ho) (by rw [(oL1 hG ho)]; exact g2) dX4_deriveCovers_41 ?_
    refine am_iload_n hz1 dX4_deriveCovers_42 2 rfl rfl ?_
    refine am_ishr hz1 dX4_deriveCovers_43 ?_
    refine am_iconst (v := 1) hz1 dX4_deriveCovers_44 (by decide) ?_
    refine am_iand hz1 dX4_deriveCovers_45 ?_
    refine am_iconst (v := 1) hz1 dX4_deriveCovers_46 (by decide) ?_
    refine am_icmp_ne (tgt := 90) hz1 dX4_deriveCovers_47 (by decide) (fun c3 => ?_) (fun c3 => ?_)
    · replace h := h.1 c3
      refine am_iinc (v := v2 + 1) (lv' := [(2, .int (v2 + 1)), (0, .ref ((zB z).size + o)), (1, .int v1)]) hz1 dX4_deriveCovers_90 2 rfl rfl rfl rfl ?_
      refine am_goto (tgt := 28) hz1 dX4_deriveCovers_93 (by decide) ?_
      exact am_sub (lv' := [(0, .ref ((zB z).size + o)), (1, .int v1), (2, .int (v2 + 1))]) [1, 2, 0] rfl h
    · replace h := h.2 c3
      refine am_aload_n hz1 dX4_deriveCovers_50 0 rfl rfl ?_
      refine am_getR hz1 fl_X4_15 (oN hG ho) (oK hG ho) (oR1 hG ho) rfl dX4_deriveCovers_51 ?_
      refine am_iload_n hz1 dX4_deriveCovers_54 1 rfl rfl ?_
      obtain ⟨g4, h⟩ := h
      refine am_iald hz1 (oN1 hG ho) (oK1 hG ho) (by rw [(oL1 hG ho)]; exact g4) dX4_deriveCovers_55 ?_
      refine am_aload_n hz1 dX4_deriveCovers_56 0 rfl rfl ?_
      refine am_getR hz1 fl_X4_19 (oN hG ho) (oK hG ho) (oR2 hG ho) rfl dX4_deriveCovers_57 ?_
      refine am_iload_n hz1 dX4_deriveCovers_60 2 rfl rfl ?_
      obtain ⟨g5, h⟩ := h
      refine am_iald hz1 (oN2 hG ho) (oK2 hG ho) (by rw [(oL2 hG ho)]; exact g5) dX4_deriveCovers_61 ?_
      refine am_iand hz1 dX4_deriveCovers_62 ?_
      refine am_if_ne (tgt := 90) hz1 dX4_deriveCovers_63 (by decide) (fun c6 => ?_) (fun c6 => ?_)
      · replace h := h.1 c6
        refine am_iinc (v := v2 + 1) (lv' := [(2, .int (v2 + 1)), (0, .ref ((zB z).size + o)), (1, .int v1)]) hz1 dX4_deriveCovers_90 2 rfl rfl rfl rfl ?_
        refine am_goto (tgt := 28) hz1 dX4_deriveCovers_93 (by decide) ?_
        exact am_sub (lv' := [(0, .ref ((zB z).size + o)), (1, .int v1), (2, .int (v2 + 1))]) [1, 2, 0] rfl h
      · replace h := h.2 c6
        refine am_aload_n hz1 dX4_deriveCovers_66 0 rfl rfl ?_
        refine am_getR hz1 fl_X4_22 (oN hG ho) (oK hG ho) (oR3 hG ho) rfl dX4_deriveCovers_67 ?_
        refine am_iload_n hz1 dX4_deriveCovers_70 1 rfl rfl ?_
        refine am_dup2 hz1 dX4_deriveCovers_71 rfl rfl ?_
        obtain ⟨g7, h⟩ := h
        refine am_iald hz1 (oN3 hG ho) (oK3 hG ho) (by rw [(oL3 hG ho)]; exact g7) dX4_deriveCovers_72 ?_
        refine am_iconst (v := 1) hz1 dX4_deriveCovers_73 (by decide) ?_
        refine am_iload_n hz1 dX4_deriveCovers_74 2 rfl rfl ?_
        refine am_ishl hz1 dX4_deriveCovers_75 ?_
        refine am_ior hz1 dX4_deriveCovers_76 ?_
        obtain ⟨g8, h⟩ := h
        refine am_iast hz1 (oN3 hG ho) (oK3 hG ho) (by rw [(oL3 hG ho)]; exact g8) dX4_deriveCovers_77 ?_
        refine am_aload_n hz1 dX4_deriveCovers_78 0 rfl rfl ?_
        refine am_getR hz1 fl_X4_25 (oN hG ho) (oK hG ho) (oR4 hG ho) rfl dX4_deriveCovers_79 ?_
        refine am_iload_n hz1 dX4_deriveCovers_82 2 rfl rfl ?_
        refine am_dup2 hz1 dX4_deriveCovers_83 rfl rfl ?_
        obtain ⟨g9, h⟩ := h
        refine am_iald hz1 (oN4 hG ho) (oK4 hG ho) (by rw [(oL4 hG ho)]; exact g9) dX4_deriveCovers_84 ?_
        refine am_iconst (v := 1) hz1 dX4_deriveCovers_85 (by decide) ?_
        refine am_iload_n hz1 dX4_deriveCovers_86 1 rfl rfl ?_
        refine am_ishl hz1 dX4_deriveCovers_87 ?_
        refine am_ior hz1 dX4_deriveCovers_88 ?_
        obtain ⟨g10, h⟩ := h
        refine am_iast hz1 (oN4 hG ho) (oK4 hG ho) (by rw [(oL4 hG ho)]; exact g10) dX4_deriveCovers_89 ?_
        refine am_iinc (v := v2 + 1) (lv' := [(2, .int (v2 + 1)), (0, .ref ((zB z).size + o)), (1, .int v1)]) hz1 dX4_deriveCovers_90 2 rfl rfl rfl rfl ?_
        refine am_goto (tgt := 28) hz1 dX4_deriveCovers_93 (by decide) ?_
        exact am_sub (lv' := [(0, .ref ((zB z).size + o)), (1, .int v1), (2, .int (v2 + 1))]) [1, 2, 0] rfl h
set_option maxRecDepth 100000 in
set_option maxHeartbeats 4000000 in
theorem c_X4_deriveCovers {l : Launch} {D : va_G} {B : Heap} {G : amG} {I : amI} {L : amL} {o : Nat} (hG : Lay G) (ho : isO o)  (hs : szOk I o) : Fx l D B yX4_deriveCovers cX4_deriveCovers 3 none 1 [.ref (B.size + o)] G I L none (q_dC I o (sz I o) 0) L := by
  refine Mx.of (by decide) rfl rfl (fun z e1 e2 e3 hz => ?_)
  subst e1; subst e2; subst e3
  refine b_X4_deriveCovers_0 hz hG ho ?_
  obtain ⟨n, hn1, h16, hn⟩ := id hs
  have hz0 : sz I o = n := sz_eq hn h16
  have hK : ∀ x y, q_dC I o x y o 0 = nI n := fun x y => by rw [q_dC, setI_n (by omega), setI_n (by omega), hn]
  have hA : ∀ x y, q_dC I o x y (o + 1) = I (o + 1) := fun x y => by rw [q_dC, setI_n (by omega), setI_n (by omega)]
  have hB : ∀ x y, q_dC I o x y (o + 2) = I (o + 2) := fun x y => by rw [q_dC, setI_n (by omega), setI_n (by omega)]
  have e0 : setI (setI I (o + 3) (q_fill (I (o + 3)) 16 0)) (o + 4) (q_fill ((setI I (o + 3) (q_fill (I (o + 3)) 16 0)) (o + 4)) 16 0) = q_dC I o 0 0 := by
    unfold q_dC
    rw [setI_n (show o + 4 ≠ o + 3 by omega)]
    refine setI2_c ?_ ?_
    · funext j
      simp only [q_fill]
      by_cases h : j < 16
      · by_cases h0 : j = 0
        · simp [h0, mkset]
        · simp [h, h0]
      · simp [h]
    · funext j
      simp only [q_fill, hz0]
      by_cases h : j < n
      · simp [h, show j < 16 by omega, mkset]
      · simp [h]
  have eN : ∀ x, x < n → q_dC I o x n = q_dC I o (x + 1) 0 := by
    intro x hx
    unfold q_dC
    congr 2
    · funext j
      by_cases h : j < 16
      · rcases Nat.lt_trichotomy j x with g | g | g
        · simp [h, g, show j < x + 1 by omega]
        · subst g; simp [h, hz0]
        · by_cases g2 : j = x + 1
          · subst g2; simp [show ¬ x + 1 < x by omega, mkset]
          · simp [h, show ¬ j < x by omega, show ¬ j = x by omega, show ¬ j < x + 1 by omega, g2]
      · simp [h]
    · funext j
      by_cases h : j < n
      · simp [h, hz0]
      · simp [h, hz0]
  rw [e0]
  refine for_up (P := fun i => Wx z 0 0 18 [(0, .ref ((zB z).size + o)), (1, .int (nI i))] [] G (q_dC I o i 0) L) (n := n) ?_ ?_ (Nat.zero_le n)
  · exact b_X4_deriveCovers_18 hz hG ho ⟨fun _ => ⟨rfl, rfl, by rw [hz0], rfl⟩, fun h => absurd (sz_le (hK n 0) h16) h⟩
  · intro i hi ih
    refine b_X4_deriveCovers_18 hz hG ho ⟨fun h => absurd h (sz_ge (hK i 0) h16 hi), fun _ => ?_⟩
    refine for_up (P := fun j => Wx z 0 0 28 [(0, .ref ((zB z).size + o)), (1, .int (nI i)), (2, .int (nI j))] [] G (q_dC I o i j) L) (n := n) ?_ ?_ (Nat.zero_le n)
    · refine b_X4_deriveCovers_28 hz hG ho ⟨fun _ => ?_, fun h => absurd (sz_le (hK i n) h16) h⟩
      rw [nI_1, eN i hi]
      exact ih
    · intro j hj jh
      have no : q_cov I o i j = false → Wx z 0 0 28 [(0, .ref ((zB z).size + o)), (1, .int (nI i)), (2, .int (nI j + 1))] [] G (q_dC I o i j) L := by
        intro hc
        have e : q_dC I o i (j + 1) = q_dC I o i j := by
          unfold q_dC
          congr 2
          · funext w
            simp [mkset, hc]
          · funext w
            by_cases hw : w = j
            · subst hw; simp [hc, mkset]
            · have : (w < j + 1) = (w < j) := by apply propext; omega
              simp [this]
        rw [e] at jh
        rw [nI_1]
        exact jh
      refine b_X4_deriveCovers_28 hz hG ho ⟨fun h => absurd h (sz_ge (hK i j) h16 hj), fun _ => ⟨in16 h16 hi, fun h => ?_, fun h => ⟨in16 h16 hi, in16 h16 hj, fun h2 => ?_, fun h2 => ⟨in16 h16 hi, in16 h16 hi, in16 h16 hj, in16 h16 hj, ?_⟩⟩⟩⟩
      · rw [hA, cl_nI (by omega)] at h
        exact no (by rw [q_cov, (b_bit0 _ j (by omega)).mp h]; rfl)
      · rw [hA, hB, cl_nI (by omega), cl_nI (by omega)] at h2
        exact no (by rw [q_cov, decide_eq_false h2, Bool.and_false])
      · rw [hA, cl_nI (by omega)] at h
        rw [hA, hB, cl_nI (by omega), cl_nI (by omega)] at h2
        have hc : q_cov I o i j = true := by rw [q_cov, decide_eq_true h2, (b_bit _ j (by omega)).mp h]; rfl
        rw [nI_1, cl_nI (by omega), cl_nI (by omega)]
        have e : setI (setI (q_dC I o i j) (o + 3) (upd (q_dC I o i j (o + 3)) i (q_dC I o i j (o + 3) i ||| ((1 : Int32) <<< (nI j &&& 31))))) (o + 4) (upd ((setI (q_dC I o i j) (o + 3) (upd (q_dC I o i j (o + 3)) i (q_dC I o i j (o + 3) i ||| ((1 : Int32) <<< (nI j &&& 31))))) (o + 4)) j ((setI (q_dC I o i j) (o + 3) (upd (q_dC I o i j (o + 3)) i (q_dC I o i j (o + 3) i ||| ((1 : Int32) <<< (nI j &&& 31))))) (o + 4) j ||| ((1 : Int32) <<< (nI i &&& 31)))) = q_dC I o i (j + 1) := by
          rw [setI_n (show o + 4 ≠ o + 3 by omega)]
          unfold q_dC
          rw [setI_s, setI_n (show o + 3 ≠ o + 4 by omega), setI_s]
          funext q
          by_cases hq4 : q = o + 4
          · subst hq4
            rw [setI_s, setI_s]
            funext w
            by_cases hw : w = j
            · subst hw; rw [upd_s]; simp [hc, mkset, hz0, hj]
            · rw [upd_n hw]
              have : (w < j + 1) = (w < j) := by apply propext; omega
              simp [this]
          · rw [setI_n hq4, setI_n hq4]
            by_cases hq3 : q = o + 3
            · subst hq3
              rw [setI_s, setI_s]
              funext w
              by_cases hw : w = i
              · subst hw; rw [upd_s]; simp [hc, mkset, show w < 16 by omega]
              · rw [upd_n hw]
                simp [hw]
            · rw [setI_n hq3, setI_n hq4, setI_n hq3, setI_n hq3]
        rw [e]
        exact jh
