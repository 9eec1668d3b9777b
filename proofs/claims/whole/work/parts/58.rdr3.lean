/-! THE CLASS READS: orders are built -/
def cdOk (v : Int32) : Prop := ∃ r : Nat, r < 256 ∧ v = nI r
def c4Ok (v : Int32) : Prop := ∃ k : Nat, k ≤ 4 ∧ v = nI k
def prC (x i : Nat) : Nat := (x >>> (2 * i)) % 4
theorem prC_M : ∀ r, r < 256 → ∀ k, k < 4 → (nI r >>> (nI (2 * k) &&& 31)) &&& 3 = nI (prC r k) := by decide +kernel
theorem prC_4 {r k : Nat} : prC r k < 4 := Nat.mod_lt _ (by decide)
def finC (x y : Nat) : Bool := scan (fun k => scan (fun i => decide (prC x k = prC x i) && !decide (prC y k = prC y i)) (fun _ => true) false k 0) (fun _ => false) true 4 0
def pcG (r : Nat) : Nat → Nat → Bool
  | 0, _ => true
  | i + 1, u => if prC r i ≤ u then pcG r i (if prC r i = u then u + 1 else u) else false
def partC (n r : Nat) : Bool := pcG r n 0
def ptC (n : Nat) : List Nat := [[], [0], [0, 1], [0, 1, 4, 5, 6], [0, 1, 4, 5, 6, 16, 17, 18, 20, 21, 22, 24, 25, 26, 27]].getD n []
theorem ptC_fl : ∀ n, n < 5 → 1 ≤ n → fl (partC n) (4 ^ n) = ptC n := by decide +kernel
theorem ptC_len : ∀ n, n < 5 → (ptC n).length = (ptL n).length := by decide
theorem ptC_R : ∀ n, n < 5 → ∀ a, a < (ptL n).length → ∀ b, b < (ptL n).length → finC ((ptC n).getD a 0) ((ptC n).getD b 0) = finB n ((ptL n).getD a 0) ((ptL n).getD b 0) := by decide +kernel
theorem ptC_lt : ∀ n, n < 5 → ∀ a, a < (ptL n).length → (ptC n).getD a 0 < 256 := by decide +kernel
set_option maxRecDepth 100000 in
set_option maxHeartbeats 4000000 in
theorem b_X6_isFiner_0 {z : amZ} {post : amP} {G : amG} {I : amI} {L : amL} (hz : Go z cX6_isFiner RX6 5 (some .boolean) 0 0 0 post) (hG : Lay G) {v0 : Int32} {v1 : Int32} (h : Wx z 0 0 2 [(0, .int v0), (1, .int v1), (2, .int 0)] [] G I L) : Wx z 0 0 0 [(0, .int v0), (1, .int v1)] [] G I L := by
  have hz1 := hz.1
  refine am_iconst (v := 0) hz1 dX6_isFiner_0 (by decide) ?_
  refine am_istore_n (lv' := [(2, .int 0), (0, .int v0), (1, .int v1)]) hz1 dX6_isFiner_1 rfl rfl rfl ?_
  exact am_sub (lv' := [(0, .int v0), (1, .int v1), (2, .int 0)]) [1, 2, 0] rfl h
set_option maxRecDepth 100000 in
set_option maxHeartbeats 4000000 in
theorem b_X6_isFiner_2 {z : amZ} {post : amP} {G : amG} {I : amI} {L : amL} (hz : Go z cX6_isFiner RX6 5 (some .boolean) 0 0 0 post) (hG : Lay G) {v0 : Int32} {v1 : Int32} {v2 : Int32} (h : (((8 : Int32) ≤ v2) → post (some (.int 1)) G I L) ∧ ((¬ (8 : Int32) ≤ v2) → Wx z 0 0 10 [(0, .int v0), (1, .int v1), (2, .int v2), (3, .int 0)] [] G I L)) : Wx z 0 0 2 [(0, .int v0), (1, .int v1), (2, .int v2)] [] G I L := by
  have hz1 := hz.1
  refine am_iload_n hz1 dX6_isFiner_2 2 rfl rfl ?_
  refine am_bipush (v := 8) hz1 dX6_isFiner_3 (by decide) ?_
  refine am_icmp_ge (tgt := 67) hz1 dX6_isFiner_5 (by decide) (fun c1 => ?_) (fun c1 => ?_)
  · replace h := h.1 c1
    refine am_iconst (v := 1) hz1 dX6_isFiner_67 (by decide) ?_
    exact am_zreturn hz (by decide) dX6_isFiner_68 h
  · replace h := h.2 c1
    refine am_iconst (v := 0) hz1 dX6_isFiner_8 (by decide) ?_
    refine am_istore_n (lv' := [(3, .int 0), (0, .int v0), (1, .int v1), (2, .int v2)]) hz1 dX6_isFiner_9 rfl rfl rfl ?_
    exact am_sub (lv' := [(0, .int v0), (1, .int v1), (2, .int v2), (3, .int 0)]) [1, 2, 3, 0] rfl h
set_option maxRecDepth 100000 in
set_option maxHeartbeats 4000000 in
theorem b_X6_isFiner_10 {z : amZ} {post : amP} {G : amG} {I : amI} {L : amL} (hz : Go z cX6_isFiner RX6 5 (some .boolean) 0 0 0 post) (hG : Lay G) {v0 : Int32} {v1 : Int32} {v2 : Int32} {v3 : Int32} (h : ((v2 ≤ v3) → Wx z 0 0 2 [(0, .int v0), (1, .int v1), (2, .int (v2 + 2))] [] G I L) ∧ ((¬ v2 ≤ v3) → ((¬ ((v0 >>> (v2 &&& 31)) &&& (3 : Int32)) = ((v0 >>> (v3 &&& 31)) &&& (3 : Int32))) → Wx z 0 0 10 [(0, .int v0), (1, .int v1), (2, .int v2), (3, .int (v3 + 2))] [] G I L) ∧ ((((v0 >>> (v2 &&& 31)) &&& (3 : Int32)) = ((v0 >>> (v3 &&& 31)) &&& (3 : Int32))) → ((((v1 >>> (v2 &&& 31)) &&& (3 : Int32)) = ((v1 >>> (v3 &&& 31)) &&& (3 : Int32))) → Wx z 0 0 10 [(0, .int v0), (1, .int v1), (2, .int v2), (3, .int (v3 + 2))] [] G I L) ∧ ((¬ ((v1 >>> (v2 &&& 31)) &&& (3 : Int32)) = ((v1 >>> (v3 &&& 31)) &&& (3 : Int32))) → post (some (.int 0)) G I L)))) : Wx z 0 0 10 [(0, .int v0), (1, .int v1), (2, .int v2), (3, .int v3)] [] G I L := by
  have hz1 := hz.1
  refine am_iload_n hz1 dX6_isFiner_10 3 rfl rfl ?_
  refine am_iload_n hz1 dX6_isFiner_11 2 rfl rfl ?_
  refine am_icmp_ge (tgt := 61) hz1 dX6_isFiner_12 (by decide) (fun c1 => ?_) (fun c1 => ?_)
  · replace h := h.1 c1
    refine am_iinc (v := v2 + 2) (lv' := [(2, .int (v2 + 2)), (0, .int v0), (1, .int v1), (3, .int v3)]) hz1 dX6_isFiner_61 2 rfl rfl rfl rfl ?_
    refine am_goto (tgt := 2) hz1 dX6_isFiner_64 (by decide) ?_
    exact am_sub (lv' := [(0, .int v0), (1, .int v1), (2, .int (v2 + 2))]) [1, 2, 0] rfl h
  · replace h := h.2 c1
    refine am_iload_n hz1 dX6_isFiner_15 0 rfl rfl ?_
    refine am_iload_n hz1 dX6_isFiner_16 2 rfl rfl ?_
    refine am_ishr hz1 dX6_isFiner_17 ?_
    refine am_iconst (v := 3) hz1 dX6_isFiner_18 (by decide) ?_
    refine am_iand hz1 dX6_isFiner_19 ?_
    refine am_iload_n hz1 dX6_isFiner_20 0 rfl rfl ?_
    refine am_iload_n hz1 dX6_isFiner_21 3 rfl rfl ?_
    refine am_ishr hz1 dX6_isFiner_22 ?_
    refine am_iconst (v := 3) hz1 dX6_isFiner_23 (by decide) ?_
    refine am_iand hz1 dX6_isFiner_24 ?_
    refine am_icmp_ne (tgt := 32) hz1 dX6_isFiner_25 (by decide) (fun c2 => ?_) (fun c2 => ?_)
    · replace h := h.1 c2
      refine am_iconst (v := 0) hz1 dX6_isFiner_32 (by decide) ?_
      refine am_istore (lv' := [(4, .int 0), (0, .int v0), (1, .int v1), (2, .int v2), (3, .int v3)]) hz1 dX6_isFiner_33 rfl rfl ?_
      refine am_iload hz1 dX6_isFiner_35 0 rfl ?_
      refine am_if0 (tgt := 55) hz1 dX6_isFiner_37 (by decide) ?_
      refine am_iinc (v := v3 + 2) (lv' := [(3, .int (v3 + 2)), (4, .int 0), (0, .int v0), (1, .int v1), (2, .int v2)]) hz1 dX6_isFiner_55 4 rfl rfl rfl rfl ?_
      refine am_goto (tgt := 10) hz1 dX6_isFiner_58 (by decide) ?_
      exact am_sub (lv' := [(0, .int v0), (1, .int v1), (2, .int v2), (3, .int (v3 + 2))]) [2, 3, 4, 0] rfl h
    · replace h := h.2 c2
      refine am_iconst (v := 1) hz1 dX6_isFiner_28 (by decide) ?_
      refine am_goto (tgt := 33) hz1 dX6_isFiner_29 (by decide) ?_
      refine am_istore (lv' := [(4, .int 1), (0, .int v0), (1, .int v1), (2, .int v2), (3, .int v3)]) hz1 dX6_isFiner_33 rfl rfl ?_
      refine am_iload hz1 dX6_isFiner_35 0 rfl ?_
      refine am_if1 (tgt := 55) hz1 dX6_isFiner_37 (by decide) ?_
      refine am_iload_n hz1 dX6_isFiner_40 2 rfl rfl ?_
      refine am_iload_n hz1 dX6_isFiner_41 3 rfl rfl ?_
      refine am_ishr hz1 dX6_isFiner_42 ?_
      refine am_iconst (v := 3) hz1 dX6_isFiner_43 (by decide) ?_
      refine am_iand hz1 dX6_isFiner_44 ?_
      refine am_iload_n hz1 dX6_isFiner_45 2 rfl rfl ?_
      refine am_iload_n hz1 dX6_isFiner_46 4 rfl rfl ?_
      refine am_ishr hz1 dX6_isFiner_47 ?_
      refine am_iconst (v := 3) hz1 dX6_isFiner_48 (by decide) ?_
      refine am_iand hz1 dX6_isFiner_49 ?_
      refine am_icmp_eq (tgt := 55) hz1 dX6_isFiner_50 (by decide) (fun c5 => ?_) (fun c5 => ?_)
      · replace h := h.1 c5
        refine am_iinc (v := v3 + 2) (lv' := [(3, .int (v3 + 2)), (4, .int 1), (0, .int v0), (1, .int v1), (2, .int v2)]) hz1 dX6_isFiner_55 4 rfl rfl rfl rfl ?_
        refine am_goto (tgt := 10) hz1 dX6_isFiner_58 (by decide) ?_
        exact am_sub (lv' := [(0, .int v0), (1, .int v1), (2, .int v2), (3, .int (v3 + 2))]) [2, 3, 4, 0] rfl h
      · replace h := h.2 c5
        refine am_iconst (v := 0) hz1 dX6_isFiner_53 (by decide) ?_
        exact am_zreturn hz (by decide) dX6_isFiner_54 h
set_option maxRecDepth 100000 in
set_option maxHeartbeats 4000000 in
theorem c_X6_isFiner {l : Launch} {D : va_G} {B : Heap} {G : amG} {I : amI} {L : amL}  (hG : Lay G)  (v0 : Int32) (v1 : Int32) (h0 : cdOk v0) (h1 : cdOk v1) : Fx l D B yX6_isFiner cX6_isFiner 5 (some .boolean) 0 [.int v0, .int v1] G I L (some (.int (bI (finC v0.toNatClampNeg v1.toNatClampNeg)))) I L := by
  refine Mx.of (by decide) rfl rfl (fun z e1 e2 e3 hz => ?_)
  subst e1; subst e2; subst e3
  refine b_X6_isFiner_0 hz hG ?_
  obtain ⟨x, hx, rfl⟩ := h0
  obtain ⟨y, hy, rfl⟩ := h1
  have ex : (nI x).toNatClampNeg = x := cl_nI (by omega)
  have ey : (nI y).toNatClampNeg = y := cl_nI (by omega)
  have eqp : ∀ {r k i}, r < 256 → k < 4 → i < 4 → ((nI r >>> (nI (2 * k) &&& 31)) &&& 3 = (nI r >>> (nI (2 * i) &&& 31)) &&& 3 ↔ prC r k = prC r i) := by
    intro r k i hr hk hi
    rw [prC_M r hr k hk, prC_M r hr i hi, nI_eq (by have := prC_4 (r := r) (k := k); omega) (by have := prC_4 (r := r) (k := i); omega)]
  have n2 : ∀ k : Nat, nI (2 * k) + 2 = nI (2 * (k + 1)) := fun k => by rw [show (2 : Int32) = nI 2 from rfl, nI_add]; rfl
  have main : scan (fun k => scan (fun i => decide (prC x k = prC x i) && !decide (prC y k = prC y i)) (fun _ => true) false k 0) (fun _ => false) true (4 - 0) 0 = finC x y → Wx z 0 0 2 [(0, .int (nI x)), (1, .int (nI y)), (2, .int (nI (2 * 0)))] [] G I L := by
    refine for_up (P := fun k => scan (fun k => scan (fun i => decide (prC x k = prC x i) && !decide (prC y k = prC y i)) (fun _ => true) false k 0) (fun _ => false) true (4 - k) k = finC x y → Wx z 0 0 2 [(0, .int (nI x)), (1, .int (nI y)), (2, .int (nI (2 * k)))] [] G I L) (n := 4) ?_ ?_ (Nat.zero_le _)
    · intro e
      refine b_X6_isFiner_2 hz hG ⟨fun _ => ?_, fun w => absurd (nI_le (a := 8) (b := 8) (Nat.le_refl _) (by decide)) w⟩
      rw [scan_0] at e
      rw [ex, ey, ← e]; exact ⟨rfl, rfl, rfl, rfl⟩
    · intro k hk ih e
      rw [scan_s hk] at e
      refine b_X6_isFiner_2 hz hG ⟨fun w => absurd w (nI_ge (b := 8) (by omega) (by decide)), fun _ => ?_⟩
      generalize hin : scan (fun i => decide (prC x k = prC x i) && !decide (prC y k = prC y i)) (fun _ => true) false k 0 = c at e
      have inner : scan (fun i => decide (prC x k = prC x i) && !decide (prC y k = prC y i)) (fun _ => true) false (k - 0) 0 = c → Wx z 0 0 10 [(0, .int (nI x)), (1, .int (nI y)), (2, .int (nI (2 * k))), (3, .int (nI (2 * 0)))] [] G I L := by
        refine for_up (P := fun i => scan (fun i => decide (prC x k = prC x i) && !decide (prC y k = prC y i)) (fun _ => true) false (k - i) i = c → Wx z 0 0 10 [(0, .int (nI x)), (1, .int (nI y)), (2, .int (nI (2 * k))), (3, .int (nI (2 * i)))] [] G I L) (n := k) ?_ ?_ (Nat.zero_le _)
        · intro e2
          rw [scan_0] at e2
          refine b_X6_isFiner_10 hz hG ⟨fun _ => ?_, fun w => absurd (nI_le (Nat.le_refl _) (by omega)) w⟩
          rw [n2]
          exact ih (by rw [← e, ← e2, if_neg (by decide)])
        · intro i hi ih2 e2
          rw [scan_s hi] at e2
          refine b_X6_isFiner_10 hz hG ⟨fun w => absurd w (nI_ge (by omega) (by omega)), fun _ => ?_⟩
          rw [eqp hx (by omega) (by omega), eqp hy (by omega) (by omega), n2]
          refine ⟨fun w => ?_, fun w => ⟨fun g => ?_, fun g => ?_⟩⟩
          · exact ih2 (by rw [← e2, if_neg (by rw [decide_eq_false w]; simp)])
          · exact ih2 (by rw [← e2, if_neg (by rw [decide_eq_true g]; simp)])
          · rw [if_pos (by rw [decide_eq_true w, decide_eq_false g]; rfl)] at e2
            rw [← e2, if_pos rfl] at e
            rw [ex, ey, ← e]; exact ⟨rfl, rfl, rfl, rfl⟩
      exact inner hin
  exact main rfl
set_option maxRecDepth 100000 in
set_option maxHeartbeats 4000000 in
theorem b_X6_isParting_0 {z : amZ} {post : amP} {G : amG} {I : amI} {L : amL} (hz : Go z cX6_isParting RX6 5 (some .boolean) 0 0 0 post) (hG : Lay G) {v0 : Int32} {v1 : Int32} (h : Wx z 0 0 8 [(0, .int v0), (2, .int 0), (3, .int (((2 : Int32) * v1) - (2 : Int32)))] [] G I L) : Wx z 0 0 0 [(0, .int v0), (1, .int v1)] [] G I L := by
  have hz1 := hz.1
  refine am_iconst (v := 0) hz1 dX6_isParting_0 (by decide) ?_
  refine am_istore_n (lv' := [(2, .int 0), (0, .int v0), (1, .int v1)]) hz1 dX6_isParting_1 rfl rfl rfl ?_
  refine am_iconst (v := 2) hz1 dX6_isParting_2 (by decide) ?_
  refine am_iload_n hz1 dX6_isParting_3 2 rfl rfl ?_
  refine am_imul hz1 dX6_isParting_4 ?_
  refine am_iconst (v := 2) hz1 dX6_isParting_5 (by decide) ?_
  refine am_isub hz1 dX6_isParting_6 ?_
  refine am_istore_n (lv' := [(3, .int (((2 : Int32) * v1) - (2 : Int32))), (2, .int 0), (0, .int v0), (1, .int v1)]) hz1 dX6_isParting_7 rfl rfl rfl ?_
  exact am_sub (lv' := [(0, .int v0), (2, .int 0), (3, .int (((2 : Int32) * v1) - (2 : Int32)))]) [2, 1, 0] rfl h
set_option maxRecDepth 100000 in
set_option maxHeartbeats 4000000 in
theorem b_X6_isParting_8 {z : amZ} {post : amP} {G : amG} {I : amI} {L : amL} (hz : Go z cX6_isParting RX6 5 (some .boolean) 0 0 0 post) (hG : Lay G) {v0 : Int32} {v2 : Int32} {v3 : Int32} (h : ((v3 < 0) → post (some (.int 1)) G I L) ∧ ((¬ v3 < 0) → ((((v0 >>> (v3 &&& 31)) &&& (3 : Int32)) ≤ v2) → ((¬ ((v0 >>> (v3 &&& 31)) &&& (3 : Int32)) = v2) → Wx z 0 0 8 [(0, .int v0), (2, .int v2), (3, .int (v3 + (-2)))] [] G I L) ∧ ((((v0 >>> (v3 &&& 31)) &&& (3 : Int32)) = v2) → Wx z 0 0 8 [(0, .int v0), (2, .int (v2 + 1)), (3, .int (v3 + (-2)))] [] G I L)) ∧ ((¬ ((v0 >>> (v3 &&& 31)) &&& (3 : Int32)) ≤ v2) → post (some (.int 0)) G I L))) : Wx z 0 0 8 [(0, .int v0), (2, .int v2), (3, .int v3)] [] G I L := by
  have hz1 := hz.1
  refine am_iload_n hz1 dX6_isParting_8 2 rfl rfl ?_
  refine am_if_lt (tgt := 42) hz1 dX6_isParting_9 (by decide) (fun c1 => ?_) (fun c1 => ?_)
  · replace h := h.1 c1
    refine am_iconst (v := 1) hz1 dX6_isParting_42 (by decide) ?_
    exact am_zreturn hz (by decide) dX6_isParting_43 h
  · replace h := h.2 c1
    refine am_iload_n hz1 dX6_isParting_12 0 rfl rfl ?_
    refine am_iload_n hz1 dX6_isParting_13 2 rfl rfl ?_
    refine am_ishr hz1 dX6_isParting_14 ?_
    refine am_iconst (v := 3) hz1 dX6_isParting_15 (by decide) ?_
    refine am_iand hz1 dX6_isParting_16 ?_
    refine am_istore (lv' := [(4, .int ((v0 >>> (v3 &&& 31)) &&& (3 : Int32))), (0, .int v0), (2, .int v2), (3, .int v3)]) hz1 dX6_isParting_17 rfl rfl ?_
    refine am_iload hz1 dX6_isParting_19 0 rfl ?_
    refine am_iload_n hz1 dX6_isParting_21 2 rfl rfl ?_
    refine am_icmp_le (tgt := 27) hz1 dX6_isParting_22 (by decide) (fun c2 => ?_) (fun c2 => ?_)
    · replace h := h.1 c2
      refine am_iload hz1 dX6_isParting_27 0 rfl ?_
      refine am_iload_n hz1 dX6_isParting_29 2 rfl rfl ?_
      refine am_icmp_ne (tgt := 36) hz1 dX6_isParting_30 (by decide) (fun c3 => ?_) (fun c3 => ?_)
      · replace h := h.1 c3
        refine am_iinc (v := v3 + (-2)) (lv' := [(3, .int (v3 + (-2))), (4, .int ((v0 >>> (v3 &&& 31)) &&& (3 : Int32))), (0, .int v0), (2, .int v2)]) hz1 dX6_isParting_36 3 rfl rfl rfl rfl ?_
        refine am_goto (tgt := 8) hz1 dX6_isParting_39 (by decide) ?_
        exact am_sub (lv' := [(0, .int v0), (2, .int v2), (3, .int (v3 + (-2)))]) [2, 3, 0] rfl h
      · replace h := h.2 c3
        refine am_iinc (v := v2 + 1) (lv' := [(2, .int (v2 + 1)), (4, .int ((v0 >>> (v3 &&& 31)) &&& (3 : Int32))), (0, .int v0), (3, .int v3)]) hz1 dX6_isParting_33 2 rfl rfl rfl rfl ?_
        refine am_iinc (v := v3 + (-2)) (lv' := [(3, .int (v3 + (-2))), (2, .int (v2 + 1)), (4, .int ((v0 >>> (v3 &&& 31)) &&& (3 : Int32))), (0, .int v0)]) hz1 dX6_isParting_36 3 rfl rfl rfl rfl ?_
        refine am_goto (tgt := 8) hz1 dX6_isParting_39 (by decide) ?_
        exact am_sub (lv' := [(0, .int v0), (2, .int (v2 + 1)), (3, .int (v3 + (-2)))]) [3, 1, 0] rfl h
    · replace h := h.2 c2
      refine am_iconst (v := 0) hz1 dX6_isParting_25 (by decide) ?_
      exact am_zreturn hz (by decide) dX6_isParting_26 h
set_option maxRecDepth 100000 in
set_option maxHeartbeats 4000000 in
theorem c_X6_isParting {l : Launch} {D : va_G} {B : Heap} {G : amG} {I : amI} {L : amL}  (hG : Lay G)  (v0 : Int32) (v1 : Int32) (h0 : cdOk v0) (h1 : c4Ok v1) : Fx l D B yX6_isParting cX6_isParting 5 (some .boolean) 0 [.int v0, .int v1] G I L (some (.int (bI (partC v1.toNatClampNeg v0.toNatClampNeg)))) I L := by
  refine Mx.of (by decide) rfl rfl (fun z e1 e2 e3 hz => ?_)
  subst e1; subst e2; subst e3
  refine b_X6_isParting_0 hz hG ?_
  obtain ⟨r, hr, rfl⟩ := h0
  obtain ⟨n, hn, rfl⟩ := h1
  have er : (nI r).toNatClampNeg = r := cl_nI (by omega)
  have en : (nI n).toNatClampNeg = n := cl_nI (by omega)
  have v3 : ∀ i : Nat, (2 : Int32) * nI (i + 1) - 2 = nI (2 * i) := fun i => by
    rw [show (2 : Int32) = nI 2 from rfl, nI_mul, show 2 * (i + 1) = 2 * i + 2 by omega, ← nI_add]
    exact Int32.add_sub_cancel _ _
  have v4 : ∀ i : Nat, nI (2 * i) + (-2) = (2 : Int32) * nI i - 2 := fun i => by
    rw [show (2 : Int32) * nI i = nI (2 * i) from by rw [show (2 : Int32) = nI 2 from rfl, nI_mul], Int32.sub_eq_add_neg]
  have main : ∀ i, i ≤ n → ∀ u, u ≤ n - i → pcG r i u = partC n r → Wx z 0 0 8 [(0, .int (nI r)), (2, .int (nI u)), (3, .int (2 * nI i - 2))] [] G I L := by
    intro i
    induction i with
    | zero =>
      intro _ u hu e
      refine b_X6_isParting_8 hz hG ⟨fun _ => ?_, fun w => absurd (by decide) w⟩
      rw [er, en, ← e]; exact ⟨rfl, rfl, rfl, rfl⟩
    | succ i ih =>
      intro hi u hu e
      have hp := prC_4 (r := r) (k := i)
      rw [pcG] at e
      rw [v3]
      refine b_X6_isParting_8 hz hG ⟨fun w => absurd w (nI_pos (by omega)), fun _ => ?_⟩
      rw [prC_M r hr i (by omega), v4, nI_1, nI_leI (by omega) (by omega), nI_eq (by omega) (by omega)]
      refine ⟨fun w => ⟨fun g => ?_, fun g => ?_⟩, fun w => ?_⟩
      · rw [if_pos w, if_neg g] at e
        exact ih (by omega) u (by omega) e
      · rw [if_pos w, if_pos g] at e
        exact ih (by omega) (u + 1) (by omega) e
      · rw [if_neg w] at e
        rw [er, en, ← e]; exact ⟨rfl, rfl, rfl, rfl⟩
  exact main n (Nat.le_refl _) 0 (Nat.zero_le _) rfl
/-- one code at most another -/
def cR (q c d : Nat) : Bool := if q = 1 then decide (c ≤ d) else if q = 2 then decide (c &&& d = c) else if q = 3 then decide (d % c = 0) else if q = 4 then finC c d else false
theorem cube_M {c d : Nat} (hc : c < 2 ^ 31) (hd : d < 2 ^ 31) : nI c &&& (nI d ^^^ (-1)) = 0 ↔ c &&& d = c := by
  rw [b_eq0]
  constructor
  · intro h
    apply Nat.eq_of_testBit_eq
    intro i
    rw [Nat.testBit_and]
    by_cases hi : i < 32
    · have := h i hi
      rw [b_and, b_not _ hi, bt_nI _ i hi, bt_nI _ i hi] at this
      cases e1 : c.testBit i <;> cases e2 : d.testBit i <;> rw [e1, e2] at this <;> simp_all
    · rw [Nat.testBit_lt_two_pow (Nat.lt_of_lt_of_le hc (Nat.pow_le_pow_right (by decide) (by omega))), Bool.false_and]
  · intro h i hi
    rw [b_and, b_not _ hi, bt_nI _ i hi, bt_nI _ i hi]
    have : c.testBit i = (c &&& d).testBit i := by rw [h]
    rw [Nat.testBit_and] at this
    cases e1 : c.testBit i <;> cases e2 : d.testBit i <;> rw [e1, e2] at this <;> simp_all
set_option maxRecDepth 100000 in
set_option maxHeartbeats 4000000 in
theorem b_X6_codeAtMost_0 {z : amZ} {post : amP} {G : amG} {I : amI} {L : amL} (hz : Go z cX6_codeAtMost RX6 3 (some .boolean) 1 0 0 post) (hG : Lay G) {v0 : Int32} {v1 : Int32} {v2 : Int32} (h : (v0 = 1 → ((v2 < v1) → post (some (.int 0)) G I L) ∧ ((¬ v2 < v1) → post (some (.int 1)) G I L)) ∧ (v0 = 2 → ((¬ (v1 &&& (v2 ^^^ (-1 : Int32))) = 0) → post (some (.int 0)) G I L) ∧ (((v1 &&& (v2 ^^^ (-1 : Int32))) = 0) → post (some (.int 1)) G I L)) ∧ (v0 = 3 → ((v1 ≤ 0) → post (some (.int 0)) G I L) ∧ ((¬ v1 ≤ 0) → ¬ v1 = 0 ∧ ((¬ (v2 - v2 / v1 * v1) = 0) → post (some (.int 0)) G I L) ∧ (((v2 - v2 / v1 * v1) = 0) → post (some (.int 1)) G I L))) ∧ (v0 = 4 → (cdOk v1) ∧ (cdOk v2) ∧ post (some (.int (bI (finC v1.toNatClampNeg v2.toNatClampNeg)))) G I L) ∧ ((v0 < 1 ∨ 4 < v0) → post (some (.int 0)) G I L)) : Wx z 0 0 0 [(0, .int v0), (1, .int v1), (2, .int v2)] [] G I L := by
  have hz1 := hz.1
  refine am_iload_n hz1 dX6_codeAtMost_0 0 rfl rfl ?_
  by_cases c1_0 : v0 = 1
  · replace h := h.1 c1_0
    refine am_tabI (off := 31) (tgt := 32) hz1 1 dX6_codeAtMost_1 c1_0 (by decide) (by decide) rfl (by decide) ?_
    refine am_iload_n hz1 dX6_codeAtMost_32 1 rfl rfl ?_
    refine am_iload_n hz1 dX6_codeAtMost_33 2 rfl rfl ?_
    refine am_icmp_gt (tgt := 41) hz1 dX6_codeAtMost_34 (by decide) (fun c2 => ?_) (fun c2 => ?_)
    · replace h := h.1 c2
      refine am_iconst (v := 0) hz1 dX6_codeAtMost_41 (by decide) ?_
      exact am_zreturn hz (by decide) dX6_codeAtMost_42 h
    · replace h := h.2 c2
      refine am_iconst (v := 1) hz1 dX6_codeAtMost_37 (by decide) ?_
      refine am_goto (tgt := 42) hz1 dX6_codeAtMost_38 (by decide) ?_
      exact am_zreturn hz (by decide) dX6_codeAtMost_42 h
  by_cases c1_1 : v0 = 2
  · replace h := h.2.1 c1_1
    refine am_tabI (off := 42) (tgt := 43) hz1 2 dX6_codeAtMost_1 c1_1 (by decide) (by decide) rfl (by decide) ?_
    refine am_iload_n hz1 dX6_codeAtMost_43 1 rfl rfl ?_
    refine am_iload_n hz1 dX6_codeAtMost_44 2 rfl rfl ?_
    refine am_iconst (v := (-1)) hz1 dX6_codeAtMost_45 (by decide) ?_
    refine am_ixor hz1 dX6_codeAtMost_46 ?_
    refine am_iand hz1 dX6_codeAtMost_47 ?_
    refine am_if_ne (tgt := 55) hz1 dX6_codeAtMost_48 (by decide) (fun c3 => ?_) (fun c3 => ?_)
    · replace h := h.1 c3
      refine am_iconst (v := 0) hz1 dX6_codeAtMost_55 (by decide) ?_
      exact am_zreturn hz (by decide) dX6_codeAtMost_56 h
    · replace h := h.2 c3
      refine am_iconst (v := 1) hz1 dX6_codeAtMost_51 (by decide) ?_
      refine am_goto (tgt := 56) hz1 dX6_codeAtMost_52 (by decide) ?_
      exact am_zreturn hz (by decide) dX6_codeAtMost_56 h
  by_cases c1_2 : v0 = 3
  · replace h := h.2.2.1 c1_2
    refine am_tabI (off := 56) (tgt := 57) hz1 3 dX6_codeAtMost_1 c1_2 (by decide) (by decide) rfl (by decide) ?_
    refine am_iload_n hz1 dX6_codeAtMost_57 1 rfl rfl ?_
    refine am_if_le (tgt := 71) hz1 dX6_codeAtMost_58 (by decide) (fun c4 => ?_) (fun c4 => ?_)
    · replace h := h.1 c4
      refine am_iconst (v := 0) hz1 dX6_codeAtMost_71 (by decide) ?_
      exact am_zreturn hz (by decide) dX6_codeAtMost_72 h
    · replace h := h.2 c4
      refine am_iload_n hz1 dX6_codeAtMost_61 2 rfl rfl ?_
      refine am_iload_n hz1 dX6_codeAtMost_62 1 rfl rfl ?_
      obtain ⟨g5, h⟩ := h
      refine am_irem hz1 dX6_codeAtMost_63 g5 ?_
      refine am_if_ne (tgt := 71) hz1 dX6_codeAtMost_64 (by decide) (fun c6 => ?_) (fun c6 => ?_)
      · replace h := h.1 c6
        refine am_iconst (v := 0) hz1 dX6_codeAtMost_71 (by decide) ?_
        exact am_zreturn hz (by decide) dX6_codeAtMost_72 h
      · replace h := h.2 c6
        refine am_iconst (v := 1) hz1 dX6_codeAtMost_67 (by decide) ?_
        refine am_goto (tgt := 72) hz1 dX6_codeAtMost_68 (by decide) ?_
        exact am_zreturn hz (by decide) dX6_codeAtMost_72 h
  by_cases c1_3 : v0 = 4
  · replace h := h.2.2.2.1 c1_3
    refine am_tabI (off := 72) (tgt := 73) hz1 4 dX6_codeAtMost_1 c1_3 (by decide) (by decide) rfl (by decide) ?_
    refine am_iload_n hz1 dX6_codeAtMost_73 1 rfl rfl ?_
    refine am_iload_n hz1 dX6_codeAtMost_74 2 rfl rfl ?_
    obtain ⟨g7, h⟩ := h
    obtain ⟨g8, h⟩ := h
    refine am_cSf hz ct_X6_151 [.int v1, .int v2] [] (c_X6_isFiner hG v1 v2 g7 g8) rfl rfl rfl ⟨Nat.le_refl _, Nat.le_refl _⟩ (Nat.le_of_ble_eq_true rfl) dX6_codeAtMost_75 ?_
    exact am_zreturn hz (bI_01 _) dX6_codeAtMost_78 h
  have c1 : v0 < 1 ∨ 4 < v0 := tabx_4_1 c1_0 c1_1 c1_2 c1_3
  replace h := h.2.2.2.2 c1
  refine am_tabO (tgt := 79) hz1 dX6_codeAtMost_1 (c1.elim (fun e => Or.inl (tab_lt 1 rfl e)) (fun e => Or.inr (tab_gt 4 rfl e))) (by decide) ?_
  refine am_iconst (v := 0) hz1 dX6_codeAtMost_79 (by decide) ?_
  exact am_zreturn hz (by decide) dX6_codeAtMost_80 h
set_option maxRecDepth 100000 in
set_option maxHeartbeats 4000000 in
theorem c_X6_codeAtMost {l : Launch} {D : va_G} {B : Heap} {G : amG} {I : amI} {L : amL}  (hG : Lay G)  (v0 : Int32) (v1 : Int32) (v2 : Int32) {q c d : Nat} (h0 : v0 = nI q) (hq : q < 5) (h1 : v1 = nI c) (h2 : v2 = nI d) (hc : c < 1000) (hd : d < 1000) (h3 : q = 3 → 1 ≤ c) (h4 : q = 4 → c < 256 ∧ d < 256) : Mx l D B yX6_codeAtMost cX6_codeAtMost 3 (some .boolean) 1 0 0 [.int v0, .int v1, .int v2] G I L (fun r G1 I1 L1 => r = some (.int (bI (cR q c d))) ∧ G1 = G ∧ I1 = I ∧ L1 = L) := by
  refine Mx.of (by decide) rfl rfl (fun z e1 e2 e3 hz => ?_)
  subst e1; subst e2; subst e3
  refine b_X6_codeAtMost_0 hz hG ?_
  subst h0; subst h1; subst h2
  have hq5 : q = 0 ∨ q = 1 ∨ q = 2 ∨ q = 3 ∨ q = 4 := by omega
  have ne : ∀ {a b : Nat}, a < 10 → b < 10 → a ≠ b → ¬ nI a = nI b := fun ha hb h e => h ((nI_eq (by omega) (by omega)).mp e)
  have hrange : 1 ≤ q → ¬ (nI q < 1 ∨ 4 < nI q) := fun w => by
    rintro (g | g)
    · have := (nI_ltI (a := q) (b := 1) (by omega) (by decide)).mp g; omega
    · have := (nI_ltI (a := 4) (b := q) (by decide) (by omega)).mp g; omega
  rcases hq5 with rfl | rfl | rfl | rfl | rfl
  · exact ⟨fun w => absurd w (by decide), fun w => absurd w (by decide), fun w => absurd w (by decide), fun w => absurd w (by decide), fun _ => ⟨rfl, rfl, rfl, rfl⟩⟩
  · refine ⟨fun _ => ⟨fun w => ?_, fun w => ?_⟩, fun w => absurd w (by decide), fun w => absurd w (by decide), fun w => absurd w (by decide), fun w => absurd w (by decide)⟩
    · have := (nI_ltI (by omega) (by omega)).mp w
      rw [show cR 1 c d = false from decide_eq_false (by omega)]; exact ⟨rfl, rfl, rfl, rfl⟩
    · have : ¬ d < c := fun g => w (nI_lt g (by omega))
      rw [show cR 1 c d = true from decide_eq_true (by omega)]; exact ⟨rfl, rfl, rfl, rfl⟩
  · refine ⟨fun w => absurd w (by decide), fun _ => ?_, fun w => absurd w (by decide), fun w => absurd w (by decide), fun w => absurd w (by decide)⟩
    rw [cube_M (by omega) (by omega)]
    refine ⟨fun w => ?_, fun w => ?_⟩
    · rw [show cR 2 c d = false from decide_eq_false w]; exact ⟨rfl, rfl, rfl, rfl⟩
    · rw [show cR 2 c d = true from decide_eq_true w]; exact ⟨rfl, rfl, rfl, rfl⟩
  · have hc1 := h3 rfl
    refine ⟨fun w => absurd w (by decide), fun w => absurd w (by decide), fun _ => ⟨fun w => ?_, fun _ => ⟨fun w => ?_, ?_⟩⟩, fun w => absurd w (by decide), fun w => absurd w (by decide)⟩
    · have := (nI_leI (a := c) (b := 0) (by omega) (by decide)).mp w; omega
    · have := (nI_eq (a := c) (b := 0) (by omega) (by decide)).mp w; omega
    · rw [nI_rem (by omega) (by omega) (by omega)]
      have hm : d % c < 2 ^ 31 := Nat.lt_of_le_of_lt (Nat.mod_le _ _) (by omega)
      refine ⟨fun w => ?_, fun w => ?_⟩
      · rw [show cR 3 c d = false from decide_eq_false (fun g => w (by rw [g]; rfl))]; exact ⟨rfl, rfl, rfl, rfl⟩
      · rw [show cR 3 c d = true from decide_eq_true ((nI_eq (b := 0) hm (by decide)).mp w)]; exact ⟨rfl, rfl, rfl, rfl⟩
  · obtain ⟨g1, g2⟩ := h4 rfl
    refine ⟨fun w => absurd w (by decide), fun w => absurd w (by decide), fun w => absurd w (by decide), fun _ => ⟨⟨c, g1, rfl⟩, ⟨d, g2, rfl⟩, ?_⟩, fun w => absurd w (by decide)⟩
    rw [cl_nI (n := c) (by omega), cl_nI (n := d) (by omega)]
    exact ⟨rfl, rfl, rfl, rfl⟩
/-! rows of codes -/
def frB (I I1 : amI) : Prop := (∀ q, q ≠ 10 → q ≠ 11 → q ≠ 18 → I1 q = I q) ∧ ∀ k, k ≠ 0 → I1 10 k = I 10 k
theorem frB_r {I : amI} : frB I I := ⟨fun _ _ _ _ => rfl, fun _ _ => rfl⟩
theorem frB_t {I I1 I2 : amI} (h : frB I I1) (h2 : frB I1 I2) : frB I I2 := ⟨fun q a b c => by rw [h2.1 q a b c, h.1 q a b c], fun k a => by rw [h2.2 k a, h.2 k a]⟩
theorem frB_a {I : amI} {p : Nat} {f : Nat → Int32} (h : p = 11 ∨ p = 18) : frB I (setI I p f) := ⟨fun q _ a b => setI_n (by omega), fun j _ => by rw [setI_n (by omega)]⟩
theorem frB.D {I I1 : amI} (h : frB I I1) : frD I I1 := ⟨fun q _ a b c => h.1 q a b c, fun k _ _ _ => by rw [h.1 17 (by decide) (by decide) (by decide)], h.2⟩
def kRw (R : Nat → Nat → Bool) (a b : Nat) : Int32 := mkset (fun b => decide (¬ b = a) && R a b) b
def kSt (R : Nat → Nat → Bool) (n a b : Nat) (f : Nat → Int32) : Prop := (∀ j, j < a → f j = kRw R j n) ∧ (a < n → f a = kRw R a b) ∧ ∀ j, a < j → j < n → f j = 0
theorem kSt_f {R : Nat → Nat → Bool} {n a b : Nat} {f : Nat → Int32} (h : kSt R n a b f) (hR : (decide (¬ b = a) && R a b) = false) : kSt R n a (b + 1) f :=
  ⟨h.1, fun ha => by rw [h.2.1 ha, kRw, kRw, mkset, if_neg (by rw [hR]; decide), Int32.or_zero], h.2.2⟩
theorem kSt_t {R : Nat → Nat → Bool} {n a b : Nat} {f : Nat → Int32} (h : kSt R n a b f) (ha : a < n) (hR : (decide (¬ b = a) && R a b) = true) : kSt R n a (b + 1) (upd f a (f a ||| (1 : Int32) <<< (nI b &&& 31))) :=
  ⟨fun j hj => by rw [upd_n (by omega)]; exact h.1 j hj, fun _ => by rw [upd_s, h.2.1 ha, kRw, kRw, mkset, if_pos hR], fun j h1 h2 => by rw [upd_n (by omega)]; exact h.2.2 j h1 h2⟩
theorem kSt_n {R : Nat → Nat → Bool} {n a : Nat} {f : Nat → Int32} (h : kSt R n a n f) (ha : a < n) : kSt R n (a + 1) 0 f :=
  ⟨fun j hj => by
    by_cases e : j = a
    · rw [e]; exact h.2.1 ha
    · exact h.1 j (by omega), fun h2 => by rw [h.2.2 (a + 1) (by omega) h2]; rfl, fun j h1 h2 => h.2.2 j (by omega) h2⟩
/-- what building leaves -/
def bdO (G : amG) (I : amI) (L : amL) (n : Nat) (R : Nat → Nat → Bool) (ok : Bool) : amP := fun r G1 I1 L1 => r = some (.int (bI ok)) ∧ G1 = G ∧ L1 = L ∧ frB I I1 ∧ (ok = true → dO I1 n (kA n R))
set_option maxRecDepth 100000 in
set_option maxHeartbeats 4000000 in
theorem b_X6_buildOfCodes_0 {z : amZ} {post : amP} {G : amG} {I : amI} {L : amL} (hz : Go z cX6_buildOfCodes RX6 5 (some .boolean) 2 0 0 post) (hG : Lay G) {v1 : Int32} {v2 : Int32} (h : ((v2 < (1 : Int32)) → post (some (.int 0)) G I L) ∧ ((¬ v2 < (1 : Int32)) → ((v2 ≤ (16 : Int32)) → Wx z 0 0 23 [(0, .ref ((zB z).size + 17)), (1, .int v1), (2, .int v2), (3, .int 0)] [] G (q_begin I 10 v2) L) ∧ ((¬ v2 ≤ (16 : Int32)) → post (some (.int 0)) G I L))) : Wx z 0 0 0 [(0, .ref ((zB z).size + 17)), (1, .int v1), (2, .int v2)] [] G I L := by
  have hz1 := hz.1
  refine am_iload_n hz1 dX6_buildOfCodes_0 2 rfl rfl ?_
  refine am_iconst (v := 1) hz1 dX6_buildOfCodes_1 (by decide) ?_
  refine am_icmp_lt (tgt := 11) hz1 dX6_buildOfCodes_2 (by decide) (fun c1 => ?_) (fun c1 => ?_)
  · replace h := h.1 c1
    refine am_iconst (v := 0) hz1 dX6_buildOfCodes_11 (by decide) ?_
    exact am_zreturn hz (by decide) dX6_buildOfCodes_12 h
  · replace h := h.2 c1
    refine am_iload_n hz1 dX6_buildOfCodes_5 2 rfl rfl ?_
    refine am_bipush (v := 16) hz1 dX6_buildOfCodes_6 (by decide) ?_
    refine am_icmp_le (tgt := 13) hz1 dX6_buildOfCodes_8 (by decide) (fun c2 => ?_) (fun c2 => ?_)
    · replace h := h.1 c2
      refine am_aload_n hz1 dX6_buildOfCodes_13 0 rfl rfl ?_
      refine am_getR hz1 fl_X6_19 (ln_17 hG) (lk_17 hG) (lr_17_1 hG) rfl dX6_buildOfCodes_14 ?_
      refine am_iload_n hz1 dX6_buildOfCodes_17 2 rfl rfl ?_
      refine am_cVf hz cv_X6_140 [.int v2] [] (c_X4_begin hG isO_10 v2 ) (ln_10 hG) (lk_10 hG) rfl rfl rfl ⟨Nat.le_refl _, Nat.le_refl _⟩ (Nat.le_of_ble_eq_true rfl) dX6_buildOfCodes_18 ?_
      refine am_iconst (v := 0) hz1 dX6_buildOfCodes_21 (by decide) ?_
      refine am_istore_n (lv' := [(3, .int 0), (0, .ref ((zB z).size + 17)), (1, .int v1), (2, .int v2)]) hz1 dX6_buildOfCodes_22 rfl rfl rfl ?_
      exact am_sub (lv' := [(0, .ref ((zB z).size + 17)), (1, .int v1), (2, .int v2), (3, .int 0)]) [1, 2, 3, 0] rfl h
    · replace h := h.2 c2
      refine am_iconst (v := 0) hz1 dX6_buildOfCodes_11 (by decide) ?_
      exact am_zreturn hz (by decide) dX6_buildOfCodes_12 h
set_option maxRecDepth 100000 in
set_option maxHeartbeats 4000000 in
theorem b_X6_buildOfCodes_23 {z : amZ} {post : amP} {G : amG} {I : amI} {L : amL} (hz : Go z cX6_buildOfCodes RX6 5 (some .boolean) 2 0 0 post) (hG : Lay G) {v1 : Int32} {v2 : Int32} {v3 : Int32} (h : ((v2 ≤ v3) → post (some (.int 1)) G I L) ∧ ((¬ v2 ≤ v3) → Wx z 0 0 31 [(0, .ref ((zB z).size + 17)), (1, .int v1), (2, .int v2), (3, .int v3), (4, .int 0)] [] G I L)) : Wx z 0 0 23 [(0, .ref ((zB z).size + 17)), (1, .int v1), (2, .int v2), (3, .int v3)] [] G I L := by
  have hz1 := hz.1
  refine am_iload_n hz1 dX6_buildOfCodes_23 3 rfl rfl ?_
  refine am_iload_n hz1 dX6_buildOfCodes_24 2 rfl rfl ?_
  refine am_icmp_ge (tgt := 91) hz1 dX6_buildOfCodes_25 (by decide) (fun c1 => ?_) (fun c1 => ?_)
  · replace h := h.1 c1
    refine am_iconst (v := 1) hz1 dX6_buildOfCodes_91 (by decide) ?_
    exact am_zreturn hz (by decide) dX6_buildOfCodes_92 h
  · replace h := h.2 c1
    refine am_iconst (v := 0) hz1 dX6_buildOfCodes_28 (by decide) ?_
    refine am_istore (lv' := [(4, .int 0), (0, .ref ((zB z).size + 17)), (1, .int v1), (2, .int v2), (3, .int v3)]) hz1 dX6_buildOfCodes_29 rfl rfl ?_
    exact am_sub (lv' := [(0, .ref ((zB z).size + 17)), (1, .int v1), (2, .int v2), (3, .int v3), (4, .int 0)]) [1, 2, 3, 4, 0] rfl h
set_option maxRecDepth 100000 in
set_option maxHeartbeats 4000000 in
theorem b_X6_buildOfCodes_31 {z : amZ} {post : amP} {G : amG} {I : amI} {L : amL} (hz : Go z cX6_buildOfCodes RX6 5 (some .boolean) 2 0 0 post) (hG : Lay G) {v1 : Int32} {v2 : Int32} {v3 : Int32} {v4 : Int32} (h : ((v2 ≤ v4) → Wx z 0 0 23 [(0, .ref ((zB z).size + 17)), (1, .int v1), (2, .int v2), (3, .int (v3 + 1))] [] G I L) ∧ ((¬ v2 ≤ v4) → ((v3 = v4) → Wx z 0 0 31 [(0, .ref ((zB z).size + 17)), (1, .int v1), (2, .int v2), (3, .int v3), (4, .int (v4 + 1))] [] G I L) ∧ ((¬ v3 = v4) → vp_in v3 16 ∧ vp_in v4 16 ∧ ∃ (dq5 : Nat) (postq5 : amP), Nat.ble (dq5 + 1) 2 = true ∧ Mx (zL z) (zD z) (zB z) yX6_codeAtMost cX6_codeAtMost 3 (some .boolean) dq5 0 0 [.int v1, .int (I 18 v3.toNatClampNeg), .int (I 18 v4.toNatClampNeg)] G I L postq5 ∧ ∀ (roq5 : Option Value) (Gq5 : amG) (Iq5 : amI) (Lq5 : amL), postq5 roq5 Gq5 Iq5 Lq5 → ∃ (rq5 : Int32), roq5 = some (.int rq5) ∧ Lay Gq5 ∧ ((rq5 = 0) → Wx z 0 0 31 [(0, .ref ((zB z).size + 17)), (1, .int v1), (2, .int v2), (3, .int v3), (4, .int (v4 + 1))] [] Gq5 Iq5 Lq5) ∧ ((¬ rq5 = 0) → vp_in v3 16 ∧ vp_in v3 16 ∧ Wx z 0 0 31 [(0, .ref ((zB z).size + 17)), (1, .int v1), (2, .int v2), (3, .int v3), (4, .int (v4 + 1))] [] Gq5 (setI Iq5 11 (upd (Iq5 11) v3.toNatClampNeg ((Iq5 11 v3.toNatClampNeg) ||| ((1 : Int32) <<< (v4 &&& 31))))) Lq5)))) : Wx z 0 0 31 [(0, .ref ((zB z).size + 17)), (1, .int v1), (2, .int v2), (3, .int v3), (4, .int v4)] [] G I L := by
  have hz1 := hz.1
  refine am_iload hz1 dX6_buildOfCodes_31 4 rfl ?_
  refine am_iload_n hz1 dX6_buildOfCodes_33 2 rfl rfl ?_
  refine am_icmp_ge (tgt := 85) hz1 dX6_buildOfCodes_34 (by decide) (fun c1 => ?_) (fun c1 => ?_)
  · replace h := h.1 c1
    refine am_iinc (v := v3 + 1) (lv' := [(3, .int (v3 + 1)), (0, .ref ((zB z).size + 17)), (1, .int v1), (2, .int v2), (4, .int v4)]) hz1 dX6_buildOfCodes_85 3 rfl rfl rfl rfl ?_
    refine am_goto (tgt := 23) hz1 dX6_buildOfCodes_88 (by decide) ?_
    exact am_sub (lv' := [(0, .ref ((zB z).size + 17)), (1, .int v1), (2, .int v2), (3, .int (v3 + 1))]) [1, 2, 3, 0] rfl h
  · replace h := h.2 c1
    refine am_iload_n hz1 dX6_buildOfCodes_37 3 rfl rfl ?_
    refine am_iload hz1 dX6_buildOfCodes_38 4 rfl ?_
    refine am_icmp_eq (tgt := 79) hz1 dX6_buildOfCodes_40 (by decide) (fun c2 => ?_) (fun c2 => ?_)
    · replace h := h.1 c2
      refine am_iinc (v := v4 + 1) (lv' := [(4, .int (v4 + 1)), (0, .ref ((zB z).size + 17)), (1, .int v1), (2, .int v2), (3, .int v3)]) hz1 dX6_buildOfCodes_79 4 rfl rfl rfl rfl ?_
      refine am_goto (tgt := 31) hz1 dX6_buildOfCodes_82 (by decide) ?_
      exact am_sub (lv' := [(0, .ref ((zB z).size + 17)), (1, .int v1), (2, .int v2), (3, .int v3), (4, .int (v4 + 1))]) [1, 2, 3, 4, 0] rfl h
    · replace h := h.2 c2
      refine am_iload_n hz1 dX6_buildOfCodes_43 1 rfl rfl ?_
      refine am_aload_n hz1 dX6_buildOfCodes_44 0 rfl rfl ?_
      refine am_getR hz1 fl_X6_9 (ln_17 hG) (lk_17 hG) (lr_17_2 hG) rfl dX6_buildOfCodes_45 ?_
      refine am_iload_n hz1 dX6_buildOfCodes_48 3 rfl rfl ?_
      obtain ⟨g3, h⟩ := h
      refine am_iald hz1 (ln_18 hG) (lk_18 hG) (by rw [(ll_18 hG)]; exact g3) dX6_buildOfCodes_49 ?_
      refine am_aload_n hz1 dX6_buildOfCodes_50 0 rfl rfl ?_
      refine am_getR hz1 fl_X6_9 (ln_17 hG) (lk_17 hG) (lr_17_2 hG) rfl dX6_buildOfCodes_51 ?_
      refine am_iload hz1 dX6_buildOfCodes_54 4 rfl ?_
      obtain ⟨g4, h⟩ := h
      refine am_iald hz1 (ln_18 hG) (lk_18 hG) (by rw [(ll_18 hG)]; exact g4) dX6_buildOfCodes_56 ?_
      obtain ⟨dq5, postq5, hdq5, hMq5, h⟩ := h
      refine am_callS hz1 ct_X6_144 [.int v1, .int (I 18 v3.toNatClampNeg), .int (I 18 v4.toNatClampNeg)] [] hMq5 rfl rfl (hz.fr hdq5) (hz.lo hdq5) (by rw [hz.2.1]; exact ⟨Nat.le_refl _, Nat.le_refl _⟩) (Nat.le_of_ble_eq_true rfl) dX6_buildOfCodes_57 (fun roq5 Gq5 Iq5 Lq5 hpq5 => ?_)
      obtain ⟨rq5, rfl, hGq5, h⟩ := h roq5 Gq5 Iq5 Lq5 hpq5
      refine am_if_eq (tgt := 79) hz1 dX6_buildOfCodes_60 (by decide) (fun c6 => ?_) (fun c6 => ?_)
      · replace h := h.1 c6
        refine am_iinc (v := v4 + 1) (lv' := [(4, .int (v4 + 1)), (0, .ref ((zB z).size + 17)), (1, .int v1), (2, .int v2), (3, .int v3)]) hz1 dX6_buildOfCodes_79 4 rfl rfl rfl rfl ?_
        refine am_goto (tgt := 31) hz1 dX6_buildOfCodes_82 (by decide) ?_
        exact am_sub (lv' := [(0, .ref ((zB z).size + 17)), (1, .int v1), (2, .int v2), (3, .int v3), (4, .int (v4 + 1))]) [1, 2, 3, 4, 0] rfl h
      · replace h := h.2 c6
        refine am_aload_n hz1 dX6_buildOfCodes_63 0 rfl rfl ?_
        refine am_getR hz1 fl_X6_19 (ln_17 hGq5) (lk_17 hGq5) (lr_17_1 hGq5) rfl dX6_buildOfCodes_64 ?_
        refine am_getR hz1 fl_X6_148 (ln_10 hGq5) (lk_10 hGq5) (lr_10_1 hGq5) rfl dX6_buildOfCodes_67 ?_
        refine am_iload_n hz1 dX6_buildOfCodes_70 3 rfl rfl ?_
        refine am_dup2 hz1 dX6_buildOfCodes_71 rfl rfl ?_
        obtain ⟨g7, h⟩ := h
        refine am_iald hz1 (ln_11 hGq5) (lk_11 hGq5) (by rw [(ll_11 hGq5)]; exact g7) dX6_buildOfCodes_72 ?_
        refine am_iconst (v := 1) hz1 dX6_buildOfCodes_73 (by decide) ?_
        refine am_iload hz1 dX6_buildOfCodes_74 4 rfl ?_
        refine am_ishl hz1 dX6_buildOfCodes_76 ?_
        refine am_ior hz1 dX6_buildOfCodes_77 ?_
        obtain ⟨g8, h⟩ := h
        refine am_iast hz1 (ln_11 hGq5) (lk_11 hGq5) (by rw [(ll_11 hGq5)]; exact g8) dX6_buildOfCodes_78 ?_
        refine am_iinc (v := v4 + 1) (lv' := [(4, .int (v4 + 1)), (0, .ref ((zB z).size + 17)), (1, .int v1), (2, .int v2), (3, .int v3)]) hz1 dX6_buildOfCodes_79 4 rfl rfl rfl rfl ?_
        refine am_goto (tgt := 31) hz1 dX6_buildOfCodes_82 (by decide) ?_
        exact am_sub (lv' := [(0, .ref ((zB z).size + 17)), (1, .int v1), (2, .int v2), (3, .int v3), (4, .int (v4 + 1))]) [1, 2, 3, 4, 0] rfl h
set_option maxRecDepth 100000 in
set_option maxHeartbeats 4000000 in
theorem c_X6_buildOfCodes {l : Launch} {D : va_G} {B : Heap} {G : amG} {I : amI} {L : amL}  (hG : Lay G)  (v1 : Int32) (v2 : Int32) {q n : Nat} {cd : Nat → Nat} {R : Nat → Nat → Bool} (h0 : v1 = nI q) (hq : q < 5) (h2 : v2 = nI n) (h1 : 1 ≤ n) (h16 : n ≤ 16) (hcd : ∀ j, j < n → I 18 j = nI (cd j) ∧ cd j < 1000 ∧ (q = 3 → 1 ≤ cd j) ∧ (q = 4 → cd j < 256)) (hR : ∀ a b, a < n → b < n → cR q (cd a) (cd b) = R a b) (hP : PO n (kA n R)) : Mx l D B yX6_buildOfCodes cX6_buildOfCodes 5 (some .boolean) 2 0 0 [.ref (B.size + 17), .int v1, .int v2] G I L (bdO G I L n R true) := by
  refine Mx.of (by decide) rfl rfl (fun z e1 e2 e3 hz => ?_)
  subst e1; subst e2; subst e3
  refine b_X6_buildOfCodes_0 hz hG ?_
  subst h0; subst h2
  refine ⟨fun w => absurd ((nI_ltI (a := n) (b := 1) (by omega) (by decide)).mp w) (by omega), fun _ => ⟨fun _ => ?_, fun w => absurd (nI_le (a := n) (b := 16) h16 (by decide)) w⟩⟩
  have hb0 : q_begin I 10 (nI n) 10 0 = nI n := by rw [q_begin, setI_n (by decide), setI_s, upd_s, q_sz_n h1 h16]
  have hbf : frB I (q_begin I 10 (nI n)) := ⟨fun q a b c => by rw [q_begin, setI_n (by omega), setI_n a], fun k hk => by rw [q_begin, setI_n (by decide), setI_s, upd_n hk]⟩
  have hb11 : ∀ j, j < 16 → q_begin I 10 (nI n) 11 j = 0 := fun j hj => by
    rw [q_begin, show (10 + 1 : Nat) = 11 from rfl, setI_s, q_fill, if_pos hj]
  have hX18 : q_begin I 10 (nI n) 18 = I 18 := by rw [q_begin, setI_n (by decide), setI_n (by decide)]
  generalize q_begin I 10 (nI n) = X at *
  have main : ∀ f : Nat → Int32, kSt R n 0 0 f → (∀ j, n ≤ j → j < 16 → f j = 0) → Wx z 0 0 23 [(0, .ref ((zB z).size + 17)), (1, .int (nI q)), (2, .int (nI n)), (3, .int (nI 0))] [] G (setI X 11 f) L := by
    refine for_up (P := fun i => ∀ f : Nat → Int32, kSt R n i 0 f → (∀ j, n ≤ j → j < 16 → f j = 0) → Wx z 0 0 23 [(0, .ref ((zB z).size + 17)), (1, .int (nI q)), (2, .int (nI n)), (3, .int (nI i))] [] G (setI X 11 f) L) (n := n) ?_ ?_ (Nat.zero_le _)
    · intro f hf hf0
      refine b_X6_buildOfCodes_23 hz hG ⟨fun _ => ?_, fun w => absurd (nI_le (Nat.le_refl _) (by omega)) w⟩
      refine ⟨rfl, rfl, rfl, frB_t hbf (frB_a (Or.inl rfl)), fun _ => ⟨by rw [setI_n (by decide)]; exact hb0, h1, h16, fun x hx => ?_, fun x hx hx2 => ?_, hP⟩⟩
      · rw [setI_s, hf.1 x hx, kA, if_pos hx]; rfl
      · rw [setI_s]; exact hf0 x hx hx2
    · intro i hi ih f hf hf0
      refine b_X6_buildOfCodes_23 hz hG ⟨fun w => absurd w (nI_ge hi (by omega)), fun _ => ?_⟩
      have inner : ∀ f : Nat → Int32, kSt R n i 0 f → (∀ j, n ≤ j → j < 16 → f j = 0) → Wx z 0 0 31 [(0, .ref ((zB z).size + 17)), (1, .int (nI q)), (2, .int (nI n)), (3, .int (nI i)), (4, .int (nI 0))] [] G (setI X 11 f) L := by
        refine for_up (P := fun b => ∀ f : Nat → Int32, kSt R n i b f → (∀ j, n ≤ j → j < 16 → f j = 0) → Wx z 0 0 31 [(0, .ref ((zB z).size + 17)), (1, .int (nI q)), (2, .int (nI n)), (3, .int (nI i)), (4, .int (nI b))] [] G (setI X 11 f) L) (n := n) ?_ ?_ (Nat.zero_le _)
        · intro f hf hf0
          refine b_X6_buildOfCodes_31 hz hG ⟨fun _ => ?_, fun w => absurd (nI_le (Nat.le_refl _) (by omega)) w⟩
          rw [nI_1]
          exact ih f (kSt_n hf hi) hf0
        · intro b hb bh f hf hf0
          refine b_X6_buildOfCodes_31 hz hG ⟨fun w => absurd w (nI_ge hb (by omega)), fun _ => ?_⟩
          rw [nI_eq (by omega) (by omega), cl_nI (n := i) (by omega), cl_nI (n := b) (by omega), nI_1, setI_n (q := 18) (by decide)]
          refine ⟨fun w => bh f (kSt_f hf (by rw [decide_eq_false (not_not_intro w.symm)]; rfl)) hf0, fun w => ⟨in_nI (by omega) (by decide), in_nI (by omega) (by decide), ?_⟩⟩
          obtain ⟨a1, a2, a3, a4⟩ := hcd i hi
          obtain ⟨b1, b2, b3, b4⟩ := hcd b hb
          have y18 : X 18 = I 18 := hX18
          refine ⟨1, _, rfl, c_X6_codeAtMost hG _ _ _ rfl hq (by rw [y18]; exact a1) (by rw [y18]; exact b1) a2 b2 a3 (fun g => ⟨a4 g, b4 g⟩), fun ro G2 I2 L2 ⟨e1, e2, e3, e4⟩ => ⟨_, e1, by rw [e2]; exact hG, ?_⟩⟩
          rw [e2, e3, e4, bI_ne, bI_eq, hR i b hi hb]
          refine ⟨fun g => bh f (kSt_f hf (by rw [g, Bool.and_false])) hf0, fun g => ⟨in_nI (by omega) (by decide), in_nI (by omega) (by decide), ?_⟩⟩
          rw [setI_s, setI_ss]
          exact bh _ (kSt_t hf hi (by rw [decide_eq_true (show ¬ b = i from fun e => w e.symm), g]; rfl)) (fun j hj hj2 => by rw [upd_n (by omega)]; exact hf0 j hj hj2)
      exact inner f hf hf0
  have := main (X 11) ⟨fun j hj => absurd hj (Nat.not_lt_zero _), fun _ => by rw [hb11 0 (by decide)]; rfl, fun j _ hj => hb11 j (by omega)⟩ (fun j _ hj => hb11 j hj)
  rw [setI_id] at this
  exact this
set_option maxRecDepth 100000 in
set_option maxHeartbeats 4000000 in
theorem b_X6_buildRow_0 {z : amZ} {post : amP} {G : amG} {I : amI} {L : amL} (hz : Go z cX6_buildRow RX6 4 (some .boolean) 3 0 0 post) (hG : Lay G) {v1 : Int32} {v2 : Int32} (h : Wx z 0 0 2 [(0, .ref ((zB z).size + 17)), (1, .int v1), (2, .int v2), (3, .int 0)] [] G I L) : Wx z 0 0 0 [(0, .ref ((zB z).size + 17)), (1, .int v1), (2, .int v2)] [] G I L := by
  have hz1 := hz.1
  refine am_iconst (v := 0) hz1 dX6_buildRow_0 (by decide) ?_
  refine am_istore_n (lv' := [(3, .int 0), (0, .ref ((zB z).size + 17)), (1, .int v1), (2, .int v2)]) hz1 dX6_buildRow_1 rfl rfl rfl ?_
  exact am_sub (lv' := [(0, .ref ((zB z).size + 17)), (1, .int v1), (2, .int v2), (3, .int 0)]) [1, 2, 3, 0] rfl h
set_option maxRecDepth 100000 in
set_option maxHeartbeats 4000000 in
theorem b_X6_buildRow_2 {z : amZ} {post : amP} {G : amG} {I : amI} {L : amL} (hz : Go z cX6_buildRow RX6 4 (some .boolean) 3 0 0 post) (hG : Lay G) {v1 : Int32} {v2 : Int32} {v3 : Int32} (h : ((v2 ≤ v3) → ∃ (dq2 : Nat) (postq2 : amP), Nat.ble (dq2 + 1) 3 = true ∧ Mx (zL z) (zD z) (zB z) yX6_buildOfCodes cX6_buildOfCodes 5 (some .boolean) dq2 0 0 [.ref ((zB z).size + 17), .int v1, .int v2] G I L postq2 ∧ ∀ (roq2 : Option Value) (Gq2 : amG) (Iq2 : amI) (Lq2 : amL), postq2 roq2 Gq2 Iq2 Lq2 → ∃ (rq2 : Int32), roq2 = some (.int rq2) ∧ Lay Gq2 ∧ ((rq2) = 0 ∨ (rq2) = 1) ∧ post (some (.int rq2)) Gq2 Iq2 Lq2) ∧ ((¬ v2 ≤ v3) → (((16 : Int32) ≤ v3) → ∃ (dq5 : Nat) (postq5 : amP), Nat.ble (dq5 + 1) 3 = true ∧ Mx (zL z) (zD z) (zB z) yX6_buildOfCodes cX6_buildOfCodes 5 (some .boolean) dq5 0 0 [.ref ((zB z).size + 17), .int v1, .int v2] G I L postq5 ∧ ∀ (roq5 : Option Value) (Gq5 : amG) (Iq5 : amI) (Lq5 : amL), postq5 roq5 Gq5 Iq5 Lq5 → ∃ (rq5 : Int32), roq5 = some (.int rq5) ∧ Lay Gq5 ∧ ((rq5) = 0 ∨ (rq5) = 1) ∧ post (some (.int rq5)) Gq5 Iq5 Lq5) ∧ ((¬ (16 : Int32) ≤ v3) → vp_in v3 16 ∧ Wx z 0 0 2 [(0, .ref ((zB z).size + 17)), (1, .int v1), (2, .int v2), (3, .int (v3 + 1))] [] G (setI I 18 (upd (I 18) v3.toNatClampNeg v3)) L))) : Wx z 0 0 2 [(0, .ref ((zB z).size + 17)), (1, .int v1), (2, .int v2), (3, .int v3)] [] G I L := by
  have hz1 := hz.1
  refine am_iload_n hz1 dX6_buildRow_2 3 rfl rfl ?_
  refine am_iload_n hz1 dX6_buildRow_3 2 rfl rfl ?_
  refine am_icmp_ge (tgt := 26) hz1 dX6_buildRow_4 (by decide) (fun c1 => ?_) (fun c1 => ?_)
  · replace h := h.1 c1
    refine am_aload_n hz1 dX6_buildRow_26 0 rfl rfl ?_
    refine am_iload_n hz1 dX6_buildRow_27 1 rfl rfl ?_
    refine am_iload_n hz1 dX6_buildRow_28 2 rfl rfl ?_
    obtain ⟨dq2, postq2, hdq2, hMq2, h⟩ := h
    refine am_callV hz1 cv_X6_134 [.int v1, .int v2] [] hMq2 (ln_17 hG) (lk_17 hG) rfl rfl (hz.fr hdq2) (hz.lo hdq2) (by rw [hz.2.1]; exact ⟨Nat.le_refl _, Nat.le_refl _⟩) (Nat.le_of_ble_eq_true rfl) dX6_buildRow_29 (fun roq2 Gq2 Iq2 Lq2 hpq2 => ?_)
    obtain ⟨rq2, rfl, hGq2, h⟩ := h roq2 Gq2 Iq2 Lq2 hpq2
    obtain ⟨g3, h⟩ := h
    exact am_zreturn hz g3 dX6_buildRow_32 h
  · replace h := h.2 c1
    refine am_iload_n hz1 dX6_buildRow_7 3 rfl rfl ?_
    refine am_bipush (v := 16) hz1 dX6_buildRow_8 (by decide) ?_
    refine am_icmp_ge (tgt := 26) hz1 dX6_buildRow_10 (by decide) (fun c4 => ?_) (fun c4 => ?_)
    · replace h := h.1 c4
      refine am_aload_n hz1 dX6_buildRow_26 0 rfl rfl ?_
      refine am_iload_n hz1 dX6_buildRow_27 1 rfl rfl ?_
      refine am_iload_n hz1 dX6_buildRow_28 2 rfl rfl ?_
      obtain ⟨dq5, postq5, hdq5, hMq5, h⟩ := h
      refine am_callV hz1 cv_X6_134 [.int v1, .int v2] [] hMq5 (ln_17 hG) (lk_17 hG) rfl rfl (hz.fr hdq5) (hz.lo hdq5) (by rw [hz.2.1]; exact ⟨Nat.le_refl _, Nat.le_refl _⟩) (Nat.le_of_ble_eq_true rfl) dX6_buildRow_29 (fun roq5 Gq5 Iq5 Lq5 hpq5 => ?_)
      obtain ⟨rq5, rfl, hGq5, h⟩ := h roq5 Gq5 Iq5 Lq5 hpq5
      obtain ⟨g6, h⟩ := h
      exact am_zreturn hz g6 dX6_buildRow_32 h
    · replace h := h.2 c4
      refine am_aload_n hz1 dX6_buildRow_13 0 rfl rfl ?_
      refine am_getR hz1 fl_X6_9 (ln_17 hG) (lk_17 hG) (lr_17_2 hG) rfl dX6_buildRow_14 ?_
      refine am_iload_n hz1 dX6_buildRow_17 3 rfl rfl ?_
      refine am_iload_n hz1 dX6_buildRow_18 3 rfl rfl ?_
      obtain ⟨g7, h⟩ := h
      refine am_iast hz1 (ln_18 hG) (lk_18 hG) (by rw [(ll_18 hG)]; exact g7) dX6_buildRow_19 ?_
      refine am_iinc (v := v3 + 1) (lv' := [(3, .int (v3 + 1)), (0, .ref ((zB z).size + 17)), (1, .int v1), (2, .int v2)]) hz1 dX6_buildRow_20 3 rfl rfl rfl rfl ?_
      refine am_goto (tgt := 2) hz1 dX6_buildRow_23 (by decide) ?_
      exact am_sub (lv' := [(0, .ref ((zB z).size + 17)), (1, .int v1), (2, .int v2), (3, .int (v3 + 1))]) [1, 2, 3, 0] rfl h
set_option maxRecDepth 100000 in
set_option maxHeartbeats 4000000 in
theorem c_X6_buildRow {l : Launch} {D : va_G} {B : Heap} {G : amG} {I : amI} {L : amL}  (hG : Lay G)  (v1 : Int32) (v2 : Int32) {q n : Nat} {R : Nat → Nat → Bool} (h0 : v1 = nI q) (hq : q < 3) (h2 : v2 = nI n) (h1 : 1 ≤ n) (h16 : n ≤ 16) (hR : ∀ a b, a < n → b < n → cR q a b = R a b) (hP : PO n (kA n R)) : Mx l D B yX6_buildRow cX6_buildRow 4 (some .boolean) 3 0 0 [.ref (B.size + 17), .int v1, .int v2] G I L (bdO G I L n R true) := by
  refine Mx.of (by decide) rfl rfl (fun z e1 e2 e3 hz => ?_)
  subst e1; subst e2; subst e3
  refine b_X6_buildRow_0 hz hG ?_
  subst h0; subst h2
  have main : Wx z 0 0 2 [(0, .ref ((zB z).size + 17)), (1, .int (nI q)), (2, .int (nI n)), (3, .int (nI 0))] [] G (setI I 18 (wr (I 18) 0 0 nI)) L := by
    refine for_up (P := fun k => Wx z 0 0 2 [(0, .ref ((zB z).size + 17)), (1, .int (nI q)), (2, .int (nI n)), (3, .int (nI k))] [] G (setI I 18 (wr (I 18) 0 k nI)) L) (n := n) ?_ ?_ (Nat.zero_le _)
    · refine b_X6_buildRow_2 hz hG ⟨fun _ => ⟨2, _, rfl, c_X6_buildOfCodes hG _ _ rfl (by omega) rfl h1 h16 (cd := id) (fun j hj => ⟨by rw [setI_s, wr_in (by omega), Nat.sub_zero]; rfl, by show j < 1000; omega, fun g => by omega, fun g => by omega⟩) hR hP, fun ro G2 I2 L2 ⟨e1, e2, e3, e4, e5⟩ => ⟨_, e1, by rw [e2]; exact hG, bI_01 _, ?_⟩⟩, fun w => absurd (nI_le (Nat.le_refl _) (by omega)) w⟩
      exact ⟨rfl, e2, e3, frB_t (frB_a (Or.inr rfl)) e4, e5⟩
    · intro k hk ih
      refine b_X6_buildRow_2 hz hG ⟨fun w => absurd w (nI_ge hk (by omega)), fun _ => ⟨fun w => absurd w (nI_ge (b := 16) (by omega) (by decide)), fun _ => ⟨in_nI (by omega) (by decide), ?_⟩⟩⟩
      rw [cl_nI (n := k) (by omega), setI_ss, setI_s, nI_1, wr_I0 rfl]
      exact ih
  rw [wr_0, setI_id] at main
  exact main
set_option maxRecDepth 100000 in
set_option maxHeartbeats 4000000 in
theorem b_X6_buildDivisors_0 {z : amZ} {post : amP} {G : amG} {I : amI} {L : amL} (hz : Go z cX6_buildDivisors RX6 4 (some .boolean) 3 0 0 post) (hG : Lay G) {v1 : Int32} (h : Wx z 0 0 4 [(0, .ref ((zB z).size + 17)), (1, .int v1), (2, .int 0), (3, .int 1)] [] G I L) : Wx z 0 0 0 [(0, .ref ((zB z).size + 17)), (1, .int v1)] [] G I L := by
  have hz1 := hz.1
  refine am_iconst (v := 0) hz1 dX6_buildDivisors_0 (by decide) ?_
  refine am_istore_n (lv' := [(2, .int 0), (0, .ref ((zB z).size + 17)), (1, .int v1)]) hz1 dX6_buildDivisors_1 rfl rfl rfl ?_
  refine am_iconst (v := 1) hz1 dX6_buildDivisors_2 (by decide) ?_
  refine am_istore_n (lv' := [(3, .int 1), (2, .int 0), (0, .ref ((zB z).size + 17)), (1, .int v1)]) hz1 dX6_buildDivisors_3 rfl rfl rfl ?_
  exact am_sub (lv' := [(0, .ref ((zB z).size + 17)), (1, .int v1), (2, .int 0), (3, .int 1)]) [2, 3, 1, 0] rfl h
set_option maxRecDepth 100000 in
set_option maxHeartbeats 4000000 in
theorem b_X6_buildDivisors_4 {z : amZ} {post : amP} {G : amG} {I : amI} {L : amL} (hz : Go z cX6_buildDivisors RX6 4 (some .boolean) 3 0 0 post) (hG : Lay G) {v1 : Int32} {v2 : Int32} {v3 : Int32} (h : ((v1 < v3) → ∃ (dq2 : Nat) (postq2 : amP), Nat.ble (dq2 + 1) 3 = true ∧ Mx (zL z) (zD z) (zB z) yX6_buildOfCodes cX6_buildOfCodes 5 (some .boolean) dq2 0 0 [.ref ((zB z).size + 17), .int 3, .int v2] G I L postq2 ∧ ∀ (roq2 : Option Value) (Gq2 : amG) (Iq2 : amI) (Lq2 : amL), postq2 roq2 Gq2 Iq2 Lq2 → ∃ (rq2 : Int32), roq2 = some (.int rq2) ∧ Lay Gq2 ∧ ((rq2) = 0 ∨ (rq2) = 1) ∧ post (some (.int rq2)) Gq2 Iq2 Lq2) ∧ ((¬ v1 < v3) → ¬ v3 = 0 ∧ ((¬ (v1 - v1 / v3 * v3) = 0) → Wx z 0 0 4 [(0, .ref ((zB z).size + 17)), (1, .int v1), (2, .int v2), (3, .int (v3 + 1))] [] G I L) ∧ (((v1 - v1 / v3 * v3) = 0) → ((v2 < (16 : Int32)) → vp_in v2 16 ∧ Wx z 0 0 4 [(0, .ref ((zB z).size + 17)), (1, .int v1), (2, .int (v2 + 1)), (3, .int (v3 + 1))] [] G (setI I 18 (upd (I 18) v2.toNatClampNeg v3)) L) ∧ ((¬ v2 < (16 : Int32)) → post (some (.int 0)) G I L)))) : Wx z 0 0 4 [(0, .ref ((zB z).size + 17)), (1, .int v1), (2, .int v2), (3, .int v3)] [] G I L := by
  have hz1 := hz.1
  refine am_iload_n hz1 dX6_buildDivisors_4 3 rfl rfl ?_
  refine am_iload_n hz1 dX6_buildDivisors_5 1 rfl rfl ?_
  refine am_icmp_gt (tgt := 39) hz1 dX6_buildDivisors_6 (by decide) (fun c1 => ?_) (fun c1 => ?_)
  · replace h := h.1 c1
    refine am_aload_n hz1 dX6_buildDivisors_39 0 rfl rfl ?_
    refine am_iconst (v := 3) hz1 dX6_buildDivisors_40 (by decide) ?_
    refine am_iload_n hz1 dX6_buildDivisors_41 2 rfl rfl ?_
    obtain ⟨dq2, postq2, hdq2, hMq2, h⟩ := h
    refine am_callV hz1 cv_X6_134 [.int 3, .int v2] [] hMq2 (ln_17 hG) (lk_17 hG) rfl rfl (hz.fr hdq2) (hz.lo hdq2) (by rw [hz.2.1]; exact ⟨Nat.le_refl _, Nat.le_refl _⟩) (Nat.le_of_ble_eq_true rfl) dX6_buildDivisors_42 (fun roq2 Gq2 Iq2 Lq2 hpq2 => ?_)
    obtain ⟨rq2, rfl, hGq2, h⟩ := h roq2 Gq2 Iq2 Lq2 hpq2
    obtain ⟨g3, h⟩ := h
    exact am_zreturn hz g3 dX6_buildDivisors_45 h
  · replace h := h.2 c1
    refine am_iload_n hz1 dX6_buildDivisors_9 1 rfl rfl ?_
    refine am_iload_n hz1 dX6_buildDivisors_10 3 rfl rfl ?_
    obtain ⟨g4, h⟩ := h
    refine am_irem hz1 dX6_buildDivisors_11 g4 ?_
    refine am_if_ne (tgt := 33) hz1 dX6_buildDivisors_12 (by decide) (fun c5 => ?_) (fun c5 => ?_)
    · replace h := h.1 c5
      refine am_iinc (v := v3 + 1) (lv' := [(3, .int (v3 + 1)), (0, .ref ((zB z).size + 17)), (1, .int v1), (2, .int v2)]) hz1 dX6_buildDivisors_33 3 rfl rfl rfl rfl ?_
      refine am_goto (tgt := 4) hz1 dX6_buildDivisors_36 (by decide) ?_
      exact am_sub (lv' := [(0, .ref ((zB z).size + 17)), (1, .int v1), (2, .int v2), (3, .int (v3 + 1))]) [1, 2, 3, 0] rfl h
    · replace h := h.2 c5
      refine am_iload_n hz1 dX6_buildDivisors_15 2 rfl rfl ?_
      refine am_bipush (v := 16) hz1 dX6_buildDivisors_16 (by decide) ?_
      refine am_icmp_lt (tgt := 23) hz1 dX6_buildDivisors_18 (by decide) (fun c6 => ?_) (fun c6 => ?_)
      · replace h := h.1 c6
        refine am_aload_n hz1 dX6_buildDivisors_23 0 rfl rfl ?_
        refine am_getR hz1 fl_X6_9 (ln_17 hG) (lk_17 hG) (lr_17_2 hG) rfl dX6_buildDivisors_24 ?_
        refine am_iload_n hz1 dX6_buildDivisors_27 2 rfl rfl ?_
        refine am_iload_n hz1 dX6_buildDivisors_28 3 rfl rfl ?_
        obtain ⟨g7, h⟩ := h
        refine am_iast hz1 (ln_18 hG) (lk_18 hG) (by rw [(ll_18 hG)]; exact g7) dX6_buildDivisors_29 ?_
        refine am_iinc (v := v2 + 1) (lv' := [(2, .int (v2 + 1)), (0, .ref ((zB z).size + 17)), (1, .int v1), (3, .int v3)]) hz1 dX6_buildDivisors_30 2 rfl rfl rfl rfl ?_
        refine am_iinc (v := v3 + 1) (lv' := [(3, .int (v3 + 1)), (2, .int (v2 + 1)), (0, .ref ((zB z).size + 17)), (1, .int v1)]) hz1 dX6_buildDivisors_33 3 rfl rfl rfl rfl ?_
        refine am_goto (tgt := 4) hz1 dX6_buildDivisors_36 (by decide) ?_
        exact am_sub (lv' := [(0, .ref ((zB z).size + 17)), (1, .int v1), (2, .int (v2 + 1)), (3, .int (v3 + 1))]) [2, 3, 1, 0] rfl h
      · replace h := h.2 c6
        refine am_iconst (v := 0) hz1 dX6_buildDivisors_21 (by decide) ?_
        exact am_zreturn hz (by decide) dX6_buildDivisors_22 h
set_option maxRecDepth 100000 in
set_option maxHeartbeats 4000000 in
theorem c_X6_buildDivisors {l : Launch} {D : va_G} {B : Heap} {G : amG} {I : amI} {L : amL}  (hG : Lay G)  (v1 : Int32) {v : Nat} (h0 : v1 = nI v) (hv1 : 1 ≤ v) (hv2 : v ≤ 999) : Mx l D B yX6_buildDivisors cX6_buildDivisors 4 (some .boolean) 3 0 0 [.ref (B.size + 17), .int v1] G I L (bdO G I L (kN 3 v) (kR 3 v) (decide (kN 3 v ≤ 16))) := by
  refine Mx.of (by decide) rfl rfl (fun z e1 e2 e3 hz => ?_)
  subst e1; subst e2; subst e3
  refine b_X6_buildDivisors_0 hz hG ?_
  subst h0
  have hlen1 : 1 ≤ (fl (fun e => decide (v % (e + 1) = 0)) v).length := by
    have hmem : 0 ∈ fl (fun e => decide (v % (e + 1) = 0)) v := fl_mem.mpr ⟨by omega, by rw [Nat.zero_add, Nat.mod_one]; rfl⟩
    exact List.length_pos_of_mem hmem
  have main : ∀ X : amI, frB I X → (∀ j, j < (fl (fun e => decide (v % (e + 1) = 0)) 0).length → X 18 j = nI ((fl (fun e => decide (v % (e + 1) = 0)) 0).getD j 0 + 1)) → (fl (fun e => decide (v % (e + 1) = 0)) 0).length ≤ 16 → Wx z 0 0 4 [(0, .ref ((zB z).size + 17)), (1, .int (nI v)), (2, .int (nI (fl (fun e => decide (v % (e + 1) = 0)) 0).length)), (3, .int (nI (0 + 1)))] [] G X L := by
    refine for_up (P := fun e => ∀ X : amI, frB I X → (∀ j, j < (fl (fun e => decide (v % (e + 1) = 0)) e).length → X 18 j = nI ((fl (fun e => decide (v % (e + 1) = 0)) e).getD j 0 + 1)) → (fl (fun e => decide (v % (e + 1) = 0)) e).length ≤ 16 → Wx z 0 0 4 [(0, .ref ((zB z).size + 17)), (1, .int (nI v)), (2, .int (nI (fl (fun e => decide (v % (e + 1) = 0)) e).length)), (3, .int (nI (e + 1)))] [] G X L) (n := v) ?_ ?_ (Nat.zero_le _)
    · intro X x1 x4 x6
      have h16 : kN 3 v ≤ 16 := x6
      refine b_X6_buildDivisors_4 hz hG ⟨fun _ => ⟨2, _, rfl, c_X6_buildOfCodes hG 3 _ (q := 3) (n := kN 3 v) (cd := fun j => (dvL v).getD j 0 + 1) (R := kR 3 v) rfl (by decide) rfl hlen1 h16 (fun j hj => ⟨x4 j hj, ?_, fun _ => by omega, fun g => by omega⟩) (fun a b _ _ => rfl) (kA_PO h16 (fun x y w hx hy hw => kR_T (by decide) (fun g => by omega) hx hy hw) (fun x y hx hy => kR_S (by decide) (fun g => by omega) hx hy)), fun ro G2 I2 L2 ⟨e1, e2, e3, e4, e5⟩ => ⟨_, e1, by rw [e2]; exact hG, bI_01 _, ?_⟩⟩, fun w => absurd (nI_lt (Nat.lt_succ_self _) (by omega)) w⟩
      · have := (fl_get (show j < (fl (fun e => decide (v % (e + 1) = 0)) v).length from hj)).1
        have h2 : (dvL v).getD j 0 < v := this
        omega
      · rw [decide_eq_true h16]
        exact ⟨rfl, e2, e3, frB_t x1 e4, e5⟩
    · intro e he ih X x1 x4 x6
      refine b_X6_buildDivisors_4 hz hG ⟨fun w => absurd ((nI_ltI (by omega) (by omega)).mp w) (by omega), fun _ => ⟨fun w => absurd ((nI_eq (b := 0) (by omega) (by decide)).mp w) (by omega), ?_⟩⟩
      rw [nI_rem (by omega) (by omega) (by omega), nI_1 (e + 1)]
      have hm : v % (e + 1) < 2 ^ 31 := Nat.lt_of_le_of_lt (Nat.mod_le _ _) (by omega)
      have hs := fl_s (p := fun e => decide (v % (e + 1) = 0)) (n := e)
      refine ⟨fun w => ?_, fun w => ?_⟩
      · have hp : ¬ v % (e + 1) = 0 := fun k => w (by rw [k]; rfl)
        rw [if_neg (by rw [decide_eq_false hp]; decide)] at hs
        rw [hs] at ih
        exact ih X x1 x4 x6
      · have hp : v % (e + 1) = 0 := (nI_eq (b := 0) hm (by decide)).mp w
        rw [if_pos (decide_eq_true hp)] at hs
        have hlen : (fl (fun e => decide (v % (e + 1) = 0)) (e + 1)).length = (fl (fun e => decide (v % (e + 1) = 0)) e).length + 1 := by rw [hs, List.length_append]; rfl
        have hmono := fl_mono (p := fun e => decide (v % (e + 1) = 0)) (show e + 1 ≤ v by omega)
        refine ⟨fun g => ?_, fun g => ?_⟩
        · have hl16 := (nI_ltI (b := 16) (by omega) (by decide)).mp g
          rw [cl_nI (n := (fl (fun e => decide (v % (e + 1) = 0)) e).length) (by omega), nI_1]
          refine ⟨in_nI (by omega) (by decide), ?_⟩
          have := ih (setI X 18 (upd (X 18) (fl (fun e => decide (v % (e + 1) = 0)) e).length (nI (e + 1)))) (frB_t x1 (frB_a (Or.inr rfl))) (fun j hj => by
            rw [setI_s, hs]
            by_cases ej : j = (fl (fun e => decide (v % (e + 1) = 0)) e).length
            · rw [ej, upd_s, List.getD_eq_getElem?_getD, List.getElem?_append_right (Nat.le_refl _), Nat.sub_self]; rfl
            · rw [upd_n ej, List.getD_eq_getElem?_getD, List.getElem?_append_left (by omega), ← List.getD_eq_getElem?_getD]
              exact x4 j (by omega)) (by omega)
          rw [hlen] at this
          exact this
        · have hl16 : ¬ (fl (fun e => decide (v % (e + 1) = 0)) e).length < 16 := fun k => g (nI_lt (b := 16) k (by decide))
          have hbig : ¬ kN 3 v ≤ 16 := by
            show ¬ (fl (fun e => decide (v % (e + 1) = 0)) v).length ≤ 16
            omega
          rw [decide_eq_false hbig]
          exact ⟨rfl, rfl, rfl, x1, fun k => by cases k⟩
  exact main I frB_r (fun j hj => absurd hj (Nat.not_lt_zero _)) (Nat.zero_le _)
set_option maxRecDepth 100000 in
set_option maxHeartbeats 4000000 in
theorem b_X6_buildParts_0 {z : amZ} {post : amP} {G : amG} {I : amI} {L : amL} (hz : Go z cX6_buildParts RX6 4 (some .boolean) 3 0 0 post) (hG : Lay G) {v1 : Int32} (h : Wx z 0 0 4 [(0, .ref ((zB z).size + 17)), (1, .int v1), (2, .int 0), (3, .int 0)] [] G I L) : Wx z 0 0 0 [(0, .ref ((zB z).size + 17)), (1, .int v1)] [] G I L := by
  have hz1 := hz.1
  refine am_iconst (v := 0) hz1 dX6_buildParts_0 (by decide) ?_
  refine am_istore_n (lv' := [(2, .int 0), (0, .ref ((zB z).size + 17)), (1, .int v1)]) hz1 dX6_buildParts_1 rfl rfl rfl ?_
  refine am_iconst (v := 0) hz1 dX6_buildParts_2 (by decide) ?_
  refine am_istore_n (lv' := [(3, .int 0), (2, .int 0), (0, .ref ((zB z).size + 17)), (1, .int v1)]) hz1 dX6_buildParts_3 rfl rfl rfl ?_
  exact am_sub (lv' := [(0, .ref ((zB z).size + 17)), (1, .int v1), (2, .int 0), (3, .int 0)]) [2, 3, 1, 0] rfl h
set_option maxRecDepth 100000 in
set_option maxHeartbeats 4000000 in
theorem b_X6_buildParts_4 {z : amZ} {post : amP} {G : amG} {I : amI} {L : amL} (hz : Go z cX6_buildParts RX6 4 (some .boolean) 3 0 0 post) (hG : Lay G) {v1 : Int32} {v2 : Int32} {v3 : Int32} (h : ((((1 : Int32) <<< (((2 : Int32) * v1) &&& 31)) ≤ v3) → ∃ (dq2 : Nat) (postq2 : amP), Nat.ble (dq2 + 1) 3 = true ∧ Mx (zL z) (zD z) (zB z) yX6_buildOfCodes cX6_buildOfCodes 5 (some .boolean) dq2 0 0 [.ref ((zB z).size + 17), .int 4, .int v2] G I L postq2 ∧ ∀ (roq2 : Option Value) (Gq2 : amG) (Iq2 : amI) (Lq2 : amL), postq2 roq2 Gq2 Iq2 Lq2 → ∃ (rq2 : Int32), roq2 = some (.int rq2) ∧ Lay Gq2 ∧ ((rq2) = 0 ∨ (rq2) = 1) ∧ post (some (.int rq2)) Gq2 Iq2 Lq2) ∧ ((¬ ((1 : Int32) <<< (((2 : Int32) * v1) &&& 31)) ≤ v3) → (cdOk v3) ∧ (c4Ok v1) ∧ ((partC v1.toNatClampNeg v3.toNatClampNeg = false) → Wx z 0 0 4 [(0, .ref ((zB z).size + 17)), (1, .int v1), (2, .int v2), (3, .int (v3 + 1))] [] G I L) ∧ ((partC v1.toNatClampNeg v3.toNatClampNeg = true) → (((16 : Int32) ≤ v2) → Wx z 0 0 4 [(0, .ref ((zB z).size + 17)), (1, .int v1), (2, .int v2), (3, .int (v3 + 1))] [] G I L) ∧ ((¬ (16 : Int32) ≤ v2) → vp_in v2 16 ∧ Wx z 0 0 4 [(0, .ref ((zB z).size + 17)), (1, .int v1), (2, .int (v2 + 1)), (3, .int (v3 + 1))] [] G (setI I 18 (upd (I 18) v2.toNatClampNeg v3)) L)))) : Wx z 0 0 4 [(0, .ref ((zB z).size + 17)), (1, .int v1), (2, .int v2), (3, .int v3)] [] G I L := by
  have hz1 := hz.1
  refine am_iload_n hz1 dX6_buildParts_4 3 rfl rfl ?_
  refine am_iconst (v := 1) hz1 dX6_buildParts_5 (by decide) ?_
  refine am_iconst (v := 2) hz1 dX6_buildParts_6 (by decide) ?_
  refine am_iload_n hz1 dX6_buildParts_7 1 rfl rfl ?_
  refine am_imul hz1 dX6_buildParts_8 ?_
  refine am_ishl hz1 dX6_buildParts_9 ?_
  refine am_icmp_ge (tgt := 43) hz1 dX6_buildParts_10 (by decide) (fun c1 => ?_) (fun c1 => ?_)
  · replace h := h.1 c1
    refine am_aload_n hz1 dX6_buildParts_43 0 rfl rfl ?_
    refine am_iconst (v := 4) hz1 dX6_buildParts_44 (by decide) ?_
    refine am_iload_n hz1 dX6_buildParts_45 2 rfl rfl ?_
    obtain ⟨dq2, postq2, hdq2, hMq2, h⟩ := h
    refine am_callV hz1 cv_X6_134 [.int 4, .int v2] [] hMq2 (ln_17 hG) (lk_17 hG) rfl rfl (hz.fr hdq2) (hz.lo hdq2) (by rw [hz.2.1]; exact ⟨Nat.le_refl _, Nat.le_refl _⟩) (Nat.le_of_ble_eq_true rfl) dX6_buildParts_46 (fun roq2 Gq2 Iq2 Lq2 hpq2 => ?_)
    obtain ⟨rq2, rfl, hGq2, h⟩ := h roq2 Gq2 Iq2 Lq2 hpq2
    obtain ⟨g3, h⟩ := h
    exact am_zreturn hz g3 dX6_buildParts_49 h
  · replace h := h.2 c1
    refine am_iload_n hz1 dX6_buildParts_13 3 rfl rfl ?_
    refine am_iload_n hz1 dX6_buildParts_14 1 rfl rfl ?_
    obtain ⟨g4, h⟩ := h
    obtain ⟨g5, h⟩ := h
    refine am_cSf hz ct_X6_137 [.int v3, .int v1] [] (c_X6_isParting hG v3 v1 g4 g5) rfl rfl rfl ⟨Nat.le_refl _, Nat.le_refl _⟩ (Nat.le_of_ble_eq_true rfl) dX6_buildParts_15 ?_
    refine am_ifb_eq (tgt := 37) hz1 dX6_buildParts_18 (by decide) (fun c6 => ?_) (fun c6 => ?_)
    · replace h := h.1 c6
      refine am_iinc (v := v3 + 1) (lv' := [(3, .int (v3 + 1)), (0, .ref ((zB z).size + 17)), (1, .int v1), (2, .int v2)]) hz1 dX6_buildParts_37 3 rfl rfl rfl rfl ?_
      refine am_goto (tgt := 4) hz1 dX6_buildParts_40 (by decide) ?_
      exact am_sub (lv' := [(0, .ref ((zB z).size + 17)), (1, .int v1), (2, .int v2), (3, .int (v3 + 1))]) [1, 2, 3, 0] rfl h
    · replace h := h.2 c6
      refine am_iload_n hz1 dX6_buildParts_21 2 rfl rfl ?_
      refine am_bipush (v := 16) hz1 dX6_buildParts_22 (by decide) ?_
      refine am_icmp_ge (tgt := 37) hz1 dX6_buildParts_24 (by decide) (fun c7 => ?_) (fun c7 => ?_)
      · replace h := h.1 c7
        refine am_iinc (v := v3 + 1) (lv' := [(3, .int (v3 + 1)), (0, .ref ((zB z).size + 17)), (1, .int v1), (2, .int v2)]) hz1 dX6_buildParts_37 3 rfl rfl rfl rfl ?_
        refine am_goto (tgt := 4) hz1 dX6_buildParts_40 (by decide) ?_
        exact am_sub (lv' := [(0, .ref ((zB z).size + 17)), (1, .int v1), (2, .int v2), (3, .int (v3 + 1))]) [1, 2, 3, 0] rfl h
      · replace h := h.2 c7
        refine am_aload_n hz1 dX6_buildParts_27 0 rfl rfl ?_
        refine am_getR hz1 fl_X6_9 (ln_17 hG) (lk_17 hG) (lr_17_2 hG) rfl dX6_buildParts_28 ?_
        refine am_iload_n hz1 dX6_buildParts_31 2 rfl rfl ?_
        refine am_iload_n hz1 dX6_buildParts_32 3 rfl rfl ?_
        obtain ⟨g8, h⟩ := h
        refine am_iast hz1 (ln_18 hG) (lk_18 hG) (by rw [(ll_18 hG)]; exact g8) dX6_buildParts_33 ?_
        refine am_iinc (v := v2 + 1) (lv' := [(2, .int (v2 + 1)), (0, .ref ((zB z).size + 17)), (1, .int v1), (3, .int v3)]) hz1 dX6_buildParts_34 2 rfl rfl rfl rfl ?_
        refine am_iinc (v := v3 + 1) (lv' := [(3, .int (v3 + 1)), (2, .int (v2 + 1)), (0, .ref ((zB z).size + 17)), (1, .int v1)]) hz1 dX6_buildParts_37 3 rfl rfl rfl rfl ?_
        refine am_goto (tgt := 4) hz1 dX6_buildParts_40 (by decide) ?_
        exact am_sub (lv' := [(0, .ref ((zB z).size + 17)), (1, .int v1), (2, .int (v2 + 1)), (3, .int (v3 + 1))]) [2, 3, 1, 0] rfl h
set_option maxRecDepth 100000 in
set_option maxHeartbeats 4000000 in
theorem c_X6_buildParts {l : Launch} {D : va_G} {B : Heap} {G : amG} {I : amI} {L : amL}  (hG : Lay G)  (v1 : Int32) {v : Nat} (h0 : v1 = nI v) (hv1 : 1 ≤ v) (hv2 : v ≤ 4) : Mx l D B yX6_buildParts cX6_buildParts 4 (some .boolean) 3 0 0 [.ref (B.size + 17), .int v1] G I L (bdO G I L (kN 4 v) (kR 4 v) true) := by
  refine Mx.of (by decide) rfl rfl (fun z e1 e2 e3 hz => ?_)
  subst e1; subst e2; subst e3
  refine b_X6_buildParts_0 hz hG ?_
  subst h0
  have hsh : (1 : Int32) <<< ((2 * nI v) &&& 31) = nI (4 ^ v) := by
    have : ∀ v, v ≤ 4 → (1 : Int32) <<< ((2 * nI v) &&& 31) = nI (4 ^ v) := by decide +kernel
    exact this v hv2
  have h256 : 4 ^ v ≤ 256 := Nat.pow_le_pow_right (n := 4) (by decide) hv2
  have hfl := ptC_fl v (by omega) hv1
  have hlen := ptC_len v (by omega)
  have hl16 := pt_len v (by omega)
  have hl1 : 1 ≤ (ptL v).length := by
    have : ∀ v, v < 5 → 1 ≤ v → 1 ≤ (ptL v).length := by decide
    exact this v (by omega) hv1
  have main : ∀ X : amI, frB I X → (∀ j, j < (fl (partC v) 0).length → X 18 j = nI ((fl (partC v) 0).getD j 0)) → Wx z 0 0 4 [(0, .ref ((zB z).size + 17)), (1, .int (nI v)), (2, .int (nI (fl (partC v) 0).length)), (3, .int (nI 0))] [] G X L := by
    refine for_up (P := fun e => ∀ X : amI, frB I X → (∀ j, j < (fl (partC v) e).length → X 18 j = nI ((fl (partC v) e).getD j 0)) → Wx z 0 0 4 [(0, .ref ((zB z).size + 17)), (1, .int (nI v)), (2, .int (nI (fl (partC v) e).length)), (3, .int (nI e))] [] G X L) (n := 4 ^ v) ?_ ?_ (Nat.zero_le _)
    · intro X x1 x4
      rw [hfl] at x4 ⊢
      rw [hlen] at x4 ⊢
      refine b_X6_buildParts_4 hz hG ⟨fun _ => ⟨2, _, rfl, c_X6_buildOfCodes hG 4 _ (q := 4) (n := kN 4 v) (cd := fun j => (ptC v).getD j 0) (R := kR 4 v) rfl (by decide) rfl hl1 hl16 (fun j hj => ⟨x4 j hj, ?_, fun g => by omega, fun _ => ptC_lt v (by omega) j hj⟩) (fun a b ha hb => ptC_R v (by omega) a ha b hb) (kA_PO hl16 (fun x y w hx hy hw => kR_T (by decide) (fun _ => by omega) hx hy hw) (fun x y hx hy => kR_S (by decide) (fun _ => by omega) hx hy)), fun ro G2 I2 L2 ⟨e1, e2, e3, e4, e5⟩ => ⟨_, e1, by rw [e2]; exact hG, bI_01 _, ?_⟩⟩, fun w => absurd (by rw [hsh]; exact nI_le (Nat.le_refl _) (by omega)) w⟩
      · have := ptC_lt v (by omega) j hj
        omega
      · exact ⟨rfl, e2, e3, frB_t x1 e4, e5⟩
    · intro e he ih X x1 x4
      have hs := fl_s (p := partC v) (n := e)
      have hmono := fl_mono (p := partC v) (show e + 1 ≤ 4 ^ v by omega)
      rw [hfl, hlen] at hmono
      refine b_X6_buildParts_4 hz hG ⟨fun w => absurd w (by rw [hsh]; exact nI_ge he (by omega)), fun _ => ⟨⟨e, by omega, rfl⟩, ⟨v, hv2, rfl⟩, ?_⟩⟩
      rw [cl_nI (n := v) (by omega), cl_nI (n := e) (by omega), nI_1 e]
      refine ⟨fun w => ?_, fun w => ?_⟩
      · rw [if_neg (by rw [w]; decide)] at hs
        rw [hs] at ih
        exact ih X x1 x4
      · rw [if_pos w] at hs
        have hlen2 : (fl (partC v) (e + 1)).length = (fl (partC v) e).length + 1 := by rw [hs, List.length_append]; rfl
        refine ⟨fun g => absurd ((nI_leI (a := 16) (by decide) (by omega)).mp g) (by omega), fun _ => ?_⟩
        rw [cl_nI (n := (fl (partC v) e).length) (by omega), nI_1]
        refine ⟨in_nI (by omega) (by decide), ?_⟩
        have := ih (setI X 18 (upd (X 18) (fl (partC v) e).length (nI e))) (frB_t x1 (frB_a (Or.inr rfl))) (fun j hj => by
          rw [setI_s, hs]
          by_cases ej : j = (fl (partC v) e).length
          · rw [ej, upd_s, List.getD_eq_getElem?_getD, List.getElem?_append_right (Nat.le_refl _), Nat.sub_self]; rfl
          · rw [upd_n ej, List.getD_eq_getElem?_getD, List.getElem?_append_left (by omega), ← List.getD_eq_getElem?_getD]
            exact x4 j (by omega))
        rw [hlen2] at this
        exact this
  exact main I frB_r (fun j hj => absurd hj (Nat.not_lt_zero _))
/-- whether a kind and a number tell an order -/
def kOk (q c : Nat) : Bool := decide ((kLo q ≤ c ∧ c ≤ kHi q) ∧ kN q c ≤ 16)
theorem kOk_f {q c : Nat} (h : ¬ (kLo q ≤ c ∧ c ≤ kHi q)) : kOk q c = false := decide_eq_false fun g => h g.1
set_option maxRecDepth 100000 in
set_option maxHeartbeats 4000000 in
theorem b_X6_build_0 {z : amZ} {post : amP} {G : amG} {I : amI} {L : amL} (hz : Go z cX6_build RX6 3 (some .boolean) 4 0 0 post) (hG : Lay G) {v1 : Int32} {v2 : Int32} (h : (v1 = 0 → ((v2 < (1 : Int32)) → post (some (.int 0)) G I L) ∧ ((¬ v2 < (1 : Int32)) → (((16 : Int32) < v2) → post (some (.int 0)) G I L) ∧ ((¬ (16 : Int32) < v2) → ∃ (dq4 : Nat) (postq4 : amP), Nat.ble (dq4 + 1) 4 = true ∧ Mx (zL z) (zD z) (zB z) yX6_buildRow cX6_buildRow 4 (some .boolean) dq4 0 0 [.ref ((zB z).size + 17), .int v1, .int v2] G I L postq4 ∧ ∀ (roq4 : Option Value) (Gq4 : amG) (Iq4 : amI) (Lq4 : amL), postq4 roq4 Gq4 Iq4 Lq4 → ∃ (rq4 : Int32), roq4 = some (.int rq4) ∧ Lay Gq4 ∧ ((rq4 = 0) → post (some (.int 0)) Gq4 Iq4 Lq4) ∧ ((¬ rq4 = 0) → post (some (.int 1)) Gq4 Iq4 Lq4)))) ∧ (v1 = 1 → ((v2 < (1 : Int32)) → post (some (.int 0)) G I L) ∧ ((¬ v2 < (1 : Int32)) → (((16 : Int32) < v2) → post (some (.int 0)) G I L) ∧ ((¬ (16 : Int32) < v2) → ∃ (dq8 : Nat) (postq8 : amP), Nat.ble (dq8 + 1) 4 = true ∧ Mx (zL z) (zD z) (zB z) yX6_buildRow cX6_buildRow 4 (some .boolean) dq8 0 0 [.ref ((zB z).size + 17), .int v1, .int v2] G I L postq8 ∧ ∀ (roq8 : Option Value) (Gq8 : amG) (Iq8 : amI) (Lq8 : amL), postq8 roq8 Gq8 Iq8 Lq8 → ∃ (rq8 : Int32), roq8 = some (.int rq8) ∧ Lay Gq8 ∧ ((rq8 = 0) → post (some (.int 0)) Gq8 Iq8 Lq8) ∧ ((¬ rq8 = 0) → post (some (.int 1)) Gq8 Iq8 Lq8)))) ∧ (v1 = 2 → ((v2 < 0) → post (some (.int 0)) G I L) ∧ ((¬ v2 < 0) → (((4 : Int32) < v2) → post (some (.int 0)) G I L) ∧ ((¬ (4 : Int32) < v2) → ∃ (dq12 : Nat) (postq12 : amP), Nat.ble (dq12 + 1) 4 = true ∧ Mx (zL z) (zD z) (zB z) yX6_buildRow cX6_buildRow 4 (some .boolean) dq12 0 0 [.ref ((zB z).size + 17), .int v1, .int ((1 : Int32) <<< (v2 &&& 31))] G I L postq12 ∧ ∀ (roq12 : Option Value) (Gq12 : amG) (Iq12 : amI) (Lq12 : amL), postq12 roq12 Gq12 Iq12 Lq12 → ∃ (rq12 : Int32), roq12 = some (.int rq12) ∧ Lay Gq12 ∧ ((rq12 = 0) → post (some (.int 0)) Gq12 Iq12 Lq12) ∧ ((¬ rq12 = 0) → post (some (.int 1)) Gq12 Iq12 Lq12)))) ∧ (v1 = 3 → ((v2 < (1 : Int32)) → post (some (.int 0)) G I L) ∧ ((¬ v2 < (1 : Int32)) → (((999 : Int32) < v2) → post (some (.int 0)) G I L) ∧ ((¬ (999 : Int32) < v2) → ∃ (dq16 : Nat) (postq16 : amP), Nat.ble (dq16 + 1) 4 = true ∧ Mx (zL z) (zD z) (zB z) yX6_buildDivisors cX6_buildDivisors 4 (some .boolean) dq16 0 0 [.ref ((zB z).size + 17), .int v2] G I L postq16 ∧ ∀ (roq16 : Option Value) (Gq16 : amG) (Iq16 : amI) (Lq16 : amL), postq16 roq16 Gq16 Iq16 Lq16 → ∃ (rq16 : Int32), roq16 = some (.int rq16) ∧ Lay Gq16 ∧ ((rq16 = 0) → post (some (.int 0)) Gq16 Iq16 Lq16) ∧ ((¬ rq16 = 0) → post (some (.int 1)) Gq16 Iq16 Lq16)))) ∧ (v1 = 4 → ((v2 < (1 : Int32)) → post (some (.int 0)) G I L) ∧ ((¬ v2 < (1 : Int32)) → (((4 : Int32) < v2) → post (some (.int 0)) G I L) ∧ ((¬ (4 : Int32) < v2) → ∃ (dq20 : Nat) (postq20 : amP), Nat.ble (dq20 + 1) 4 = true ∧ Mx (zL z) (zD z) (zB z) yX6_buildParts cX6_buildParts 4 (some .boolean) dq20 0 0 [.ref ((zB z).size + 17), .int v2] G I L postq20 ∧ ∀ (roq20 : Option Value) (Gq20 : amG) (Iq20 : amI) (Lq20 : amL), postq20 roq20 Gq20 Iq20 Lq20 → ∃ (rq20 : Int32), roq20 = some (.int rq20) ∧ Lay Gq20 ∧ ((rq20 = 0) → post (some (.int 0)) Gq20 Iq20 Lq20) ∧ ((¬ rq20 = 0) → post (some (.int 1)) Gq20 Iq20 Lq20)))) ∧ ((v1 < 0 ∨ 4 < v1) → post (some (.int 0)) G I L)) : Wx z 0 0 0 [(0, .ref ((zB z).size + 17)), (1, .int v1), (2, .int v2)] [] G I L := by
  have hz1 := hz.1
  refine am_iload_n hz1 dX6_build_0 1 rfl rfl ?_
  by_cases c1_0 : v1 = 0
  · replace h := h.1 c1_0
    refine am_tabI (off := 35) (tgt := 36) hz1 0 dX6_build_1 c1_0 (by decide) (by decide) rfl (by decide) ?_
    refine am_iload_n hz1 dX6_build_36 2 rfl rfl ?_
    refine am_iconst (v := 1) hz1 dX6_build_37 (by decide) ?_
    refine am_icmp_lt (tgt := 60) hz1 dX6_build_38 (by decide) (fun c2 => ?_) (fun c2 => ?_)
    · replace h := h.1 c2
      refine am_iconst (v := 0) hz1 dX6_build_60 (by decide) ?_
      exact am_zreturn hz (by decide) dX6_build_61 h
    · replace h := h.2 c2
      refine am_iload_n hz1 dX6_build_41 2 rfl rfl ?_
      refine am_bipush (v := 16) hz1 dX6_build_42 (by decide) ?_
      refine am_icmp_gt (tgt := 60) hz1 dX6_build_44 (by decide) (fun c3 => ?_) (fun c3 => ?_)
      · replace h := h.1 c3
        refine am_iconst (v := 0) hz1 dX6_build_60 (by decide) ?_
        exact am_zreturn hz (by decide) dX6_build_61 h
      · replace h := h.2 c3
        refine am_aload_n hz1 dX6_build_47 0 rfl rfl ?_
        refine am_iload_n hz1 dX6_build_48 1 rfl rfl ?_
        refine am_iload_n hz1 dX6_build_49 2 rfl rfl ?_
        obtain ⟨dq4, postq4, hdq4, hMq4, h⟩ := h
        refine am_callV hz1 cv_X6_125 [.int v1, .int v2] [] hMq4 (ln_17 hG) (lk_17 hG) rfl rfl (hz.fr hdq4) (hz.lo hdq4) (by rw [hz.2.1]; exact ⟨Nat.le_refl _, Nat.le_refl _⟩) (Nat.le_of_ble_eq_true rfl) dX6_build_50 (fun roq4 Gq4 Iq4 Lq4 hpq4 => ?_)
        obtain ⟨rq4, rfl, hGq4, h⟩ := h roq4 Gq4 Iq4 Lq4 hpq4
        refine am_if_eq (tgt := 60) hz1 dX6_build_53 (by decide) (fun c5 => ?_) (fun c5 => ?_)
        · replace h := h.1 c5
          refine am_iconst (v := 0) hz1 dX6_build_60 (by decide) ?_
          exact am_zreturn hz (by decide) dX6_build_61 h
        · replace h := h.2 c5
          refine am_iconst (v := 1) hz1 dX6_build_56 (by decide) ?_
          refine am_goto (tgt := 61) hz1 dX6_build_57 (by decide) ?_
          exact am_zreturn hz (by decide) dX6_build_61 h
  by_cases c1_1 : v1 = 1
  · replace h := h.2.1 c1_1
    refine am_tabI (off := 35) (tgt := 36) hz1 1 dX6_build_1 c1_1 (by decide) (by decide) rfl (by decide) ?_
    refine am_iload_n hz1 dX6_build_36 2 rfl rfl ?_
    refine am_iconst (v := 1) hz1 dX6_build_37 (by decide) ?_
    refine am_icmp_lt (tgt := 60) hz1 dX6_build_38 (by decide) (fun c6 => ?_) (fun c6 => ?_)
    · replace h := h.1 c6
      refine am_iconst (v := 0) hz1 dX6_build_60 (by decide) ?_
      exact am_zreturn hz (by decide) dX6_build_61 h
    · replace h := h.2 c6
      refine am_iload_n hz1 dX6_build_41 2 rfl rfl ?_
      refine am_bipush (v := 16) hz1 dX6_build_42 (by decide) ?_
      refine am_icmp_gt (tgt := 60) hz1 dX6_build_44 (by decide) (fun c7 => ?_) (fun c7 => ?_)
      · replace h := h.1 c7
        refine am_iconst (v := 0) hz1 dX6_build_60 (by decide) ?_
        exact am_zreturn hz (by decide) dX6_build_61 h
      · replace h := h.2 c7
        refine am_aload_n hz1 dX6_build_47 0 rfl rfl ?_
        refine am_iload_n hz1 dX6_build_48 1 rfl rfl ?_
        refine am_iload_n hz1 dX6_build_49 2 rfl rfl ?_
        obtain ⟨dq8, postq8, hdq8, hMq8, h⟩ := h
        refine am_callV hz1 cv_X6_125 [.int v1, .int v2] [] hMq8 (ln_17 hG) (lk_17 hG) rfl rfl (hz.fr hdq8) (hz.lo hdq8) (by rw [hz.2.1]; exact ⟨Nat.le_refl _, Nat.le_refl _⟩) (Nat.le_of_ble_eq_true rfl) dX6_build_50 (fun roq8 Gq8 Iq8 Lq8 hpq8 => ?_)
        obtain ⟨rq8, rfl, hGq8, h⟩ := h roq8 Gq8 Iq8 Lq8 hpq8
        refine am_if_eq (tgt := 60) hz1 dX6_build_53 (by decide) (fun c9 => ?_) (fun c9 => ?_)
        · replace h := h.1 c9
          refine am_iconst (v := 0) hz1 dX6_build_60 (by decide) ?_
          exact am_zreturn hz (by decide) dX6_build_61 h
        · replace h := h.2 c9
          refine am_iconst (v := 1) hz1 dX6_build_56 (by decide) ?_
          refine am_goto (tgt := 61) hz1 dX6_build_57 (by decide) ?_
          exact am_zreturn hz (by decide) dX6_build_61 h
  by_cases c1_2 : v1 = 2
  · replace h := h.2.2.1 c1_2
    refine am_tabI (off := 61) (tgt := 62) hz1 2 dX6_build_1 c1_2 (by decide) (by decide) rfl (by decide) ?_
    refine am_iload_n hz1 dX6_build_62 2 rfl rfl ?_
    refine am_if_lt (tgt := 86) hz1 dX6_build_63 (by decide) (fun c10 => ?_) (fun c10 => ?_)
    · replace h := h.1 c10
      refine am_iconst (v := 0) hz1 dX6_build_86 (by decide) ?_
      exact am_zreturn hz (by decide) dX6_build_87 h
    · replace h := h.2 c10
      refine am_iload_n hz1 dX6_build_66 2 rfl rfl ?_
      refine am_iconst (v := 4) hz1 dX6_build_67 (by decide) ?_
      refine am_icmp_gt (tgt := 86) hz1 dX6_build_68 (by decide) (fun c11 => ?_) (fun c11 => ?_)
      · replace h := h.1 c11
        refine am_iconst (v := 0) hz1 dX6_build_86 (by decide) ?_
        exact am_zreturn hz (by decide) dX6_build_87 h
      · replace h := h.2 c11
        refine am_aload_n hz1 dX6_build_71 0 rfl rfl ?_
        refine am_iload_n hz1 dX6_build_72 1 rfl rfl ?_
        refine am_iconst (v := 1) hz1 dX6_build_73 (by decide) ?_
        refine am_iload_n hz1 dX6_build_74 2 rfl rfl ?_
        refine am_ishl hz1 dX6_build_75 ?_
        obtain ⟨dq12, postq12, hdq12, hMq12, h⟩ := h
        refine am_callV hz1 cv_X6_125 [.int v1, .int ((1 : Int32) <<< (v2 &&& 31))] [] hMq12 (ln_17 hG) (lk_17 hG) rfl rfl (hz.fr hdq12) (hz.lo hdq12) (by rw [hz.2.1]; exact ⟨Nat.le_refl _, Nat.le_refl _⟩) (Nat.le_of_ble_eq_true rfl) dX6_build_76 (fun roq12 Gq12 Iq12 Lq12 hpq12 => ?_)
        obtain ⟨rq12, rfl, hGq12, h⟩ := h roq12 Gq12 Iq12 Lq12 hpq12
        refine am_if_eq (tgt := 86) hz1 dX6_build_79 (by decide) (fun c13 => ?_) (fun c13 => ?_)
        · replace h := h.1 c13
          refine am_iconst (v := 0) hz1 dX6_build_86 (by decide) ?_
          exact am_zreturn hz (by decide) dX6_build_87 h
        · replace h := h.2 c13
          refine am_iconst (v := 1) hz1 dX6_build_82 (by decide) ?_
          refine am_goto (tgt := 87) hz1 dX6_build_83 (by decide) ?_
          exact am_zreturn hz (by decide) dX6_build_87 h
  by_cases c1_3 : v1 = 3
  · replace h := h.2.2.2.1 c1_3
    refine am_tabI (off := 87) (tgt := 88) hz1 3 dX6_build_1 c1_3 (by decide) (by decide) rfl (by decide) ?_
    refine am_iload_n hz1 dX6_build_88 2 rfl rfl ?_
    refine am_iconst (v := 1) hz1 dX6_build_89 (by decide) ?_
    refine am_icmp_lt (tgt := 112) hz1 dX6_build_90 (by decide) (fun c14 => ?_) (fun c14 => ?_)
    · replace h := h.1 c14
      refine am_iconst (v := 0) hz1 dX6_build_112 (by decide) ?_
      exact am_zreturn hz (by decide) dX6_build_113 h
    · replace h := h.2 c14
      refine am_iload_n hz1 dX6_build_93 2 rfl rfl ?_
      refine am_sipush (v := 999) hz1 dX6_build_94 (by decide) ?_
      refine am_icmp_gt (tgt := 112) hz1 dX6_build_97 (by decide) (fun c15 => ?_) (fun c15 => ?_)
      · replace h := h.1 c15
        refine am_iconst (v := 0) hz1 dX6_build_112 (by decide) ?_
        exact am_zreturn hz (by decide) dX6_build_113 h
      · replace h := h.2 c15
        refine am_aload_n hz1 dX6_build_100 0 rfl rfl ?_
        refine am_iload_n hz1 dX6_build_101 2 rfl rfl ?_
        obtain ⟨dq16, postq16, hdq16, hMq16, h⟩ := h
        refine am_callV hz1 cv_X6_128 [.int v2] [] hMq16 (ln_17 hG) (lk_17 hG) rfl rfl (hz.fr hdq16) (hz.lo hdq16) (by rw [hz.2.1]; exact ⟨Nat.le_refl _, Nat.le_refl _⟩) (Nat.le_of_ble_eq_true rfl) dX6_build_102 (fun roq16 Gq16 Iq16 Lq16 hpq16 => ?_)
        obtain ⟨rq16, rfl, hGq16, h⟩ := h roq16 Gq16 Iq16 Lq16 hpq16
        refine am_if_eq (tgt := 112) hz1 dX6_build_105 (by decide) (fun c17 => ?_) (fun c17 => ?_)
        · replace h := h.1 c17
          refine am_iconst (v := 0) hz1 dX6_build_112 (by decide) ?_
          exact am_zreturn hz (by decide) dX6_build_113 h
        · replace h := h.2 c17
          refine am_iconst (v := 1) hz1 dX6_build_108 (by decide) ?_
          refine am_goto (tgt := 113) hz1 dX6_build_109 (by decide) ?_
          exact am_zreturn hz (by decide) dX6_build_113 h
  by_cases c1_4 : v1 = 4
  · replace h := h.2.2.2.2.1 c1_4
    refine am_tabI (off := 113) (tgt := 114) hz1 4 dX6_build_1 c1_4 (by decide) (by decide) rfl (by decide) ?_
    refine am_iload_n hz1 dX6_build_114 2 rfl rfl ?_
    refine am_iconst (v := 1) hz1 dX6_build_115 (by decide) ?_
    refine am_icmp_lt (tgt := 136) hz1 dX6_build_116 (by decide) (fun c18 => ?_) (fun c18 => ?_)
    · replace h := h.1 c18
      refine am_iconst (v := 0) hz1 dX6_build_136 (by decide) ?_
      exact am_zreturn hz (by decide) dX6_build_137 h
    · replace h := h.2 c18
      refine am_iload_n hz1 dX6_build_119 2 rfl rfl ?_
      refine am_iconst (v := 4) hz1 dX6_build_120 (by decide) ?_
      refine am_icmp_gt (tgt := 136) hz1 dX6_build_121 (by decide) (fun c19 => ?_) (fun c19 => ?_)
      · replace h := h.1 c19
        refine am_iconst (v := 0) hz1 dX6_build_136 (by decide) ?_
        exact am_zreturn hz (by decide) dX6_build_137 h
      · replace h := h.2 c19
        refine am_aload_n hz1 dX6_build_124 0 rfl rfl ?_
        refine am_iload_n hz1 dX6_build_125 2 rfl rfl ?_
        obtain ⟨dq20, postq20, hdq20, hMq20, h⟩ := h
        refine am_callV hz1 cv_X6_131 [.int v2] [] hMq20 (ln_17 hG) (lk_17 hG) rfl rfl (hz.fr hdq20) (hz.lo hdq20) (by rw [hz.2.1]; exact ⟨Nat.le_refl _, Nat.le_refl _⟩) (Nat.le_of_ble_eq_true rfl) dX6_build_126 (fun roq20 Gq20 Iq20 Lq20 hpq20 => ?_)
        obtain ⟨rq20, rfl, hGq20, h⟩ := h roq20 Gq20 Iq20 Lq20 hpq20
        refine am_if_eq (tgt := 136) hz1 dX6_build_129 (by decide) (fun c21 => ?_) (fun c21 => ?_)
        · replace h := h.1 c21
          refine am_iconst (v := 0) hz1 dX6_build_136 (by decide) ?_
          exact am_zreturn hz (by decide) dX6_build_137 h
        · replace h := h.2 c21
          refine am_iconst (v := 1) hz1 dX6_build_132 (by decide) ?_
          refine am_goto (tgt := 137) hz1 dX6_build_133 (by decide) ?_
          exact am_zreturn hz (by decide) dX6_build_137 h
  have c1 : v1 < 0 ∨ 4 < v1 := tabx_5_0 c1_0 c1_1 c1_2 c1_3 c1_4
  replace h := h.2.2.2.2.2 c1
  refine am_tabO (tgt := 138) hz1 dX6_build_1 (c1.elim (fun e => Or.inl (tab_lt 0 rfl e)) (fun e => Or.inr (tab_gt 4 rfl e))) (by decide) ?_
  refine am_iconst (v := 0) hz1 dX6_build_138 (by decide) ?_
  exact am_zreturn hz (by decide) dX6_build_139 h
set_option maxRecDepth 100000 in
set_option maxHeartbeats 4000000 in
theorem c_X6_build {l : Launch} {D : va_G} {B : Heap} {G : amG} {I : amI} {L : amL}  (hG : Lay G)  (v1 : Int32) (v2 : Int32) {q c : Nat} (h0 : v1 = nI q) (hq : q < 5) (h2 : v2 = nI c) (hc : c ≤ 100000) : Mx l D B yX6_build cX6_build 3 (some .boolean) 4 0 0 [.ref (B.size + 17), .int v1, .int v2] G I L (bdO G I L (kN q c) (kR q c) (kOk q c)) := by
  refine Mx.of (by decide) rfl rfl (fun z e1 e2 e3 hz => ?_)
  subst e1; subst e2; subst e3
  refine b_X6_build_0 hz hG ?_
  subst h0; subst h2
  have lt : ∀ {a b : Nat}, a < 2 ^ 31 → b < 2 ^ 31 → (nI a < nI b ↔ a < b) := fun ha hb => nI_ltI ha hb
  have no : ¬ (kLo q ≤ c ∧ c ≤ kHi q) → bdO G I L (kN q c) (kR q c) (kOk q c) (some (.int 0)) G I L := fun h => by
    rw [kOk_f h]; exact ⟨rfl, rfl, rfl, frB_r, fun w => by cases w⟩
  have back : ∀ {ok : Bool} {ro : Option Value} {G2 : amG} {I2 : amI} {L2 : amL}, kOk q c = ok → bdO G I L (kN q c) (kR q c) ok ro G2 I2 L2 → ∃ x, ro = some (.int x) ∧ Lay G2 ∧ (x = 0 → bdO G I L (kN q c) (kR q c) (kOk q c) (some (.int 0)) G2 I2 L2) ∧ (¬ x = 0 → bdO G I L (kN q c) (kR q c) (kOk q c) (some (.int 1)) G2 I2 L2) := by
    intro ok ro G2 I2 L2 hk h
    refine ⟨_, h.1, by rw [h.2.1]; exact hG, fun w => ?_, fun w => ?_⟩
    · rw [bI_eq] at w
      rw [hk]; exact ⟨by rw [w]; rfl, h.2⟩
    · rw [bI_ne] at w
      rw [hk]; exact ⟨by rw [w]; rfl, h.2⟩
  have PQ : kN q c ≤ 16 → (q = 4 → c < 5) → PO (kN q c) (kA (kN q c) (kR q c)) := fun h16 h4 => kA_PO h16 (fun x y w hx hy hw => kR_T hq h4 hx hy hw) (fun x y hx hy => kR_S hq h4 hx hy)
  have hq5 : q = 0 ∨ q = 1 ∨ q = 2 ∨ q = 3 ∨ q = 4 := by omega
  rcases hq5 with rfl | rfl | rfl | rfl | rfl
  · refine ⟨fun _ => ?_, fun w => absurd w (by decide), fun w => absurd w (by decide), fun w => absurd w (by decide), fun w => absurd w (by decide), fun w => absurd w (by decide)⟩
    refine ⟨fun w => no (fun g => by have := (nI_ltI (b := 1) (by omega) (by decide)).mp w; have : 1 ≤ c := g.1; omega), fun w => ⟨fun w2 => no (fun g => by have := (nI_ltI (a := 16) (by decide) (by omega)).mp w2; have : c ≤ 16 := g.2; omega), fun w2 => ?_⟩⟩
    have g1 : ¬ c < 1 := fun g => w (nI_lt (b := 1) g (by decide))
    have g2 : ¬ 16 < c := fun g => w2 (nI_lt (a := 16) g (by omega))
    exact ⟨3, _, rfl, c_X6_buildRow hG 0 _ (q := 0) (n := kN 0 c) (R := kR 0 c) rfl (by decide) rfl (by show 1 ≤ c; omega) (by show c ≤ 16; omega) (fun a b _ _ => rfl) (PQ (by show c ≤ 16; omega) (fun g => by omega)), fun ro G2 I2 L2 h => back (decide_eq_true ⟨⟨by show 1 ≤ c; omega, by show c ≤ 16; omega⟩, by show c ≤ 16; omega⟩) h⟩
  · refine ⟨fun w => absurd w (by decide), fun _ => ?_, fun w => absurd w (by decide), fun w => absurd w (by decide), fun w => absurd w (by decide), fun w => absurd w (by decide)⟩
    refine ⟨fun w => no (fun g => by have := (nI_ltI (b := 1) (by omega) (by decide)).mp w; have : 1 ≤ c := g.1; omega), fun w => ⟨fun w2 => no (fun g => by have := (nI_ltI (a := 16) (by decide) (by omega)).mp w2; have : c ≤ 16 := g.2; omega), fun w2 => ?_⟩⟩
    have g1 : ¬ c < 1 := fun g => w (nI_lt (b := 1) g (by decide))
    have g2 : ¬ 16 < c := fun g => w2 (nI_lt (a := 16) g (by omega))
    exact ⟨3, _, rfl, c_X6_buildRow hG 1 _ (q := 1) (n := kN 1 c) (R := kR 1 c) rfl (by decide) rfl (by show 1 ≤ c; omega) (by show c ≤ 16; omega) (fun a b _ _ => rfl) (PQ (by show c ≤ 16; omega) (fun g => by omega)), fun ro G2 I2 L2 h => back (decide_eq_true ⟨⟨by show 1 ≤ c; omega, by show c ≤ 16; omega⟩, by show c ≤ 16; omega⟩) h⟩
  · refine ⟨fun w => absurd w (by decide), fun w => absurd w (by decide), fun _ => ?_, fun w => absurd w (by decide), fun w => absurd w (by decide), fun w => absurd w (by decide)⟩
    refine ⟨fun w => absurd w (nI_pos (by omega)), fun w => ⟨fun w2 => no (fun g => by have := (nI_ltI (a := 4) (by decide) (by omega)).mp w2; have : c ≤ 4 := g.2; omega), fun w2 => ?_⟩⟩
    have g2 : ¬ 4 < c := fun g => w2 (nI_lt (a := 4) g (by omega))
    have hp16 : 2 ^ c ≤ 16 := Nat.pow_le_pow_right (n := 2) (by decide) (show c ≤ 4 by omega)
    have hsh : (1 : Int32) <<< (nI c &&& 31) = nI (2 ^ c) := by
      have : ∀ v, v ≤ 4 → (1 : Int32) <<< (nI v &&& 31) = nI (2 ^ v) := by decide +kernel
      exact this c (by omega)
    rw [hsh]
    exact ⟨3, _, rfl, c_X6_buildRow hG 2 _ (q := 2) (n := kN 2 c) (R := kR 2 c) rfl (by decide) rfl Nat.one_le_two_pow hp16 (fun a b _ _ => rfl) (PQ hp16 (fun g => by omega)), fun ro G2 I2 L2 h => back (decide_eq_true ⟨⟨Nat.zero_le _, by show c ≤ 4; omega⟩, hp16⟩) h⟩
  · refine ⟨fun w => absurd w (by decide), fun w => absurd w (by decide), fun w => absurd w (by decide), fun _ => ?_, fun w => absurd w (by decide), fun w => absurd w (by decide)⟩
    refine ⟨fun w => no (fun g => by have := (nI_ltI (b := 1) (by omega) (by decide)).mp w; have : 1 ≤ c := g.1; omega), fun w => ⟨fun w2 => no (fun g => by have := (nI_ltI (a := 999) (by decide) (by omega)).mp w2; have : c ≤ 999 := g.2; omega), fun w2 => ?_⟩⟩
    have g1 : ¬ c < 1 := fun g => w (nI_lt (b := 1) g (by decide))
    have g2 : ¬ 999 < c := fun g => w2 (nI_lt (a := 999) g (by omega))
    refine ⟨3, _, rfl, c_X6_buildDivisors hG _ rfl (by omega) (by omega), fun ro G2 I2 L2 h => back ?_ h⟩
    rw [kOk]
    exact decide_eq_decide.mpr ⟨fun g => g.2, fun g => ⟨⟨by show 1 ≤ c; omega, by show c ≤ 999; omega⟩, g⟩⟩
  · refine ⟨fun w => absurd w (by decide), fun w => absurd w (by decide), fun w => absurd w (by decide), fun w => absurd w (by decide), fun _ => ?_, fun w => absurd w (by decide)⟩
    refine ⟨fun w => no (fun g => by have := (nI_ltI (b := 1) (by omega) (by decide)).mp w; have : 1 ≤ c := g.1; omega), fun w => ⟨fun w2 => no (fun g => by have := (nI_ltI (a := 4) (by decide) (by omega)).mp w2; have : c ≤ 4 := g.2; omega), fun w2 => ?_⟩⟩
    have g1 : ¬ c < 1 := fun g => w (nI_lt (b := 1) g (by decide))
    have g2 : ¬ 4 < c := fun g => w2 (nI_lt (a := 4) g (by omega))
    exact ⟨3, _, rfl, c_X6_buildParts hG _ rfl (by omega) (by omega), fun ro G2 I2 L2 h => back (decide_eq_true ⟨⟨by show 1 ≤ c; omega, by show c ≤ 4; omega⟩, pt_len c (by omega)⟩) h⟩
