/-! THE ORDER'S LOOPS THAT ONLY ASK -/
def sz (I : amI) (o : Nat) : Nat := (I o 0).toNatClampNeg
theorem sz_eq {I : amI} {o n : Nat} (hn : I o 0 = nI n) (h16 : n ≤ 16) : sz I o = n := by unfold sz; rw [hn]; exact cl_nI (by omega)
theorem sz_ge {I : amI} {o n i : Nat} (hn : I o 0 = nI n) (h16 : n ≤ 16) (hi : i < n) : ¬ I o 0 ≤ nI i := by rw [hn]; exact nI_ge hi (by omega)
theorem sz_le {I : amI} {o n : Nat} (hn : I o 0 = nI n) (h16 : n ≤ 16) : I o 0 ≤ nI n := by rw [hn]; exact nI_le (Nat.le_refl _) (by omega)
theorem no16 {n i : Nat} (h16 : n ≤ 16) (hi : i < n) : ¬ (Int32.ofNat 16) ≤ nI i := nI_ge (a := i) (b := 16) (by omega) (by decide)
theorem in16 {n i : Nat} (h16 : n ≤ 16) (hi : i < n) : vp_in (nI i) 16 := in_nI (by omega) (by decide)
def sumI (f : Nat → Int32) : Nat → Int32
  | 0 => 0
  | n + 1 => sumI f n + f n
def q_pairs (I : amI) (o p : Nat) : Int32 := sumI (fun x => q_bc (I p x)) (sz I o)
def q_without (I : amI) (o p : Nat) : Int32 := mkset (fun x => decide (I p x = 0)) (sz I o)
def p_least (I : amI) (o : Nat) (set : Int32) (x : Nat) : Bool := bt set x && decide (set &&& (q_from I o (nI x) ^^^ (-1)) = 0)
def q_least (I : amI) (o : Nat) (set : Int32) : Int32 := scan (p_least I o set) nI (-2) (sz I o) 0
def p_greatest (I : amI) (o : Nat) (set : Int32) (x : Nat) : Bool := bt set x && decide (set &&& (q_upTo I o (nI x) ^^^ (-1)) = 0)
def q_greatest (I : amI) (o : Nat) (set : Int32) : Int32 := scan (p_greatest I o set) nI (-2) (sz I o) 0
def p_hasJ (I : amI) (o : Nat) (set : Int32) (x y : Nat) : Bool := bt set x && (bt set y && decide (¬ 0 ≤ q_least I o ((set &&& q_from I o (nI x)) &&& q_from I o (nI y))))
def q_hasJ1 (I : amI) (o : Nat) (set : Int32) (x : Nat) : Bool := scan (p_hasJ I o set x) (fun _ => true) false x 0
def q_hasJ (I : amI) (o : Nat) (set : Int32) : Bool := scan (q_hasJ1 I o set) (fun _ => false) true (sz I o) 0
def p_isLat (I : amI) (o x y : Nat) : Bool := decide (¬ 0 ≤ q_greatest I o (q_upTo I o (nI x) &&& q_upTo I o (nI y)))
def q_isLat1 (I : amI) (o x : Nat) : Bool := scan (p_isLat I o x) (fun _ => true) false x 0
def q_isLat (I : amI) (o : Nat) : Bool := scan (q_isLat1 I o) (fun _ => false) (q_hasJ I o (q_all I o)) (sz I o) 0
def maxI (f : Nat → Int32) : Nat → Int32
  | 0 => 0
  | n + 1 => if maxI f n < f n then f n else maxI f n
def q_gh (I : amI) (o : Nat) : Int32 := maxI (fun x => I (o + 5) x) (sz I o)
def p_gr (I : amI) (o x y : Nat) : Bool := bt (I (o + 4) x) y && decide (¬ I (o + 5) y + 1 = I (o + 5) x)
def q_gr1 (I : amI) (o x : Nat) : Bool := scan (p_gr I o x) (fun _ => true) false (sz I o) 0
def q_graded (I : amI) (o : Nat) : Bool := scan (q_gr1 I o) (fun _ => false) true (sz I o) 0
def sumS (f : Nat → Int64) (s : Int32) : Nat → Int64
  | 0 => 0
  | n + 1 => if bt s n = true then sumS f s n + f n else sumS f s n
def q_sumOf (I : amI) (L : amL) (o p : Nat) (s : Int32) : Int64 := sumS (L p) s (sz I o)
def q_isTold (I : amI) (o : Nat) (e : Int32) (p : Nat) : Bool := decide (I o 0 = e) && scan (fun x => decide (¬ I (o + 1) x = I p x)) (fun _ => false) true (sz I o) 0
def w16 (w : Int32) : Prop := ∃ n, n ≤ 16 ∧ w = nI n
/-- bits of a set that lie in another set, without the gaps: how many were taken, and what they are -/
def pkc (s : Int32) : Nat → Nat
  | 0 => 0
  | n + 1 => if bt s n = true then pkc s n + 1 else pkc s n
def pkv (b s : Int32) : Nat → Int32
  | 0 => 0
  | n + 1 => if bt s n = true then pkv b s n ||| (((b >>> (nI n &&& 31)) &&& 1) <<< (nI (pkc s n) &&& 31)) else pkv b s n
def q_packed (b s w : Int32) : Int32 := pkv b s w.toNatClampNeg
set_option maxRecDepth 100000 in
set_option maxHeartbeats 4000000 in
theorem b_X4_pairs_0 {z : amZ} {post : amP} {G : amG} {I : amI} {L : amL} (hz : Go z cX4_pairs RX4 4 (some .int) 1 0 0 post) (hG : Lay G) {o : Nat} (ho : isO o) {p1 : Nat} (hn_p1 : p1 < gN G) (hk_p1 : gK G p1 = 50) (hl_p1 : gL G p1 = 16)  (h : Wx z 0 0 4 [(0, .ref ((zB z).size + o)), (1, .ref ((zB z).size + p1)), (2, .int 0), (3, .int 0)] [] G I L) : Wx z 0 0 0 [(0, .ref ((zB z).size + o)), (1, .ref ((zB z).size + p1))] [] G I L := by
  have hz1 := hz.1
  refine am_iconst (v := 0) hz1 dX4_pairs_0 (by decide) ?_
  refine am_istore_n (lv' := [(2, .int 0), (0, .ref ((zB z).size + o)), (1, .ref ((zB z).size + p1))]) hz1 dX4_pairs_1 rfl rfl rfl ?_
  refine am_iconst (v := 0) hz1 dX4_pairs_2 (by decide) ?_
  refine am_istore_n (lv' := [(3, .int 0), (2, .int 0), (0, .ref ((zB z).size + o)), (1, .ref ((zB z).size + p1))]) hz1 dX4_pairs_3 rfl rfl rfl ?_
  exact am_sub (lv' := [(0, .ref ((zB z).size + o)), (1, .ref ((zB z).size + p1)), (2, .int 0), (3, .int 0)]) [2, 3, 1, 0] rfl h
set_option maxRecDepth 100000 in
set_option maxHeartbeats 4000000 in
theorem b_X4_pairs_4 {z : amZ} {post : amP} {G : amG} {I : amI} {L : amL} (hz : Go z cX4_pairs RX4 4 (some .int) 1 0 0 post) (hG : Lay G) {o : Nat} (ho : isO o) {p1 : Nat} (hn_p1 : p1 < gN G) (hk_p1 : gK G p1 = 50) (hl_p1 : gL G p1 = 16) {v2 : Int32} {v3 : Int32} (h : (((I o 0) ≤ v3) → post (some (.int v2)) G I L) ∧ ((¬ (I o 0) ≤ v3) → (((Int32.ofNat 16) ≤ v3) → post (some (.int v2)) G I L) ∧ ((¬ (Int32.ofNat 16) ≤ v3) → vp_in v3 16 ∧ Wx z 0 0 4 [(0, .ref ((zB z).size + o)), (1, .ref ((zB z).size + p1)), (2, .int (v2 + (q_bc (I p1 v3.toNatClampNeg)))), (3, .int (v3 + 1))] [] G I L))) : Wx z 0 0 4 [(0, .ref ((zB z).size + o)), (1, .ref ((zB z).size + p1)), (2, .int v2), (3, .int v3)] [] G I L := by
  have hz1 := hz.1
  refine am_iload_n hz1 dX4_pairs_4 3 rfl rfl ?_
  refine am_aload_n hz1 dX4_pairs_5 0 rfl rfl ?_
  refine am_getI hz1 fl_X4_9 (oN hG ho) (oK hG ho) rfl dX4_pairs_6 ?_
  refine am_icmp_ge (tgt := 33) hz1 dX4_pairs_9 (by decide) (fun c1 => ?_) (fun c1 => ?_)
  · replace h := h.1 c1
    refine am_iload_n hz1 dX4_pairs_33 2 rfl rfl ?_
    exact am_ireturn hz dX4_pairs_34 h
  · replace h := h.2 c1
    refine am_iload_n hz1 dX4_pairs_12 3 rfl rfl ?_
    refine am_aload_n hz1 dX4_pairs_13 1 rfl rfl ?_
    refine am_alenI hz1 hn_p1 hk_p1 dX4_pairs_14 ?_
    rw [hl_p1]
    refine am_icmp_ge (tgt := 33) hz1 dX4_pairs_15 (by decide) (fun c2 => ?_) (fun c2 => ?_)
    · replace h := h.1 c2
      refine am_iload_n hz1 dX4_pairs_33 2 rfl rfl ?_
      exact am_ireturn hz dX4_pairs_34 h
    · replace h := h.2 c2
      refine am_iload_n hz1 dX4_pairs_18 2 rfl rfl ?_
      refine am_aload_n hz1 dX4_pairs_19 1 rfl rfl ?_
      refine am_iload_n hz1 dX4_pairs_20 3 rfl rfl ?_
      obtain ⟨g3, h⟩ := h
      refine am_iald hz1 hn_p1 hk_p1 (by rw [hl_p1]; exact g3) dX4_pairs_21 ?_
      refine am_cSf hz ct_X4_71 [.int (I p1 v3.toNatClampNeg)] [.int v2] (c_J6_bitCount_0f7a4 hG (I p1 v3.toNatClampNeg) ) rfl rfl rfl ⟨Nat.le_refl _, Nat.le_refl _⟩ (Nat.le_of_ble_eq_true rfl) dX4_pairs_22 ?_
      refine am_iadd hz1 dX4_pairs_25 ?_
      refine am_istore_n (lv' := [(2, .int (v2 + (q_bc (I p1 v3.toNatClampNeg)))), (0, .ref ((zB z).size + o)), (1, .ref ((zB z).size + p1)), (3, .int v3)]) hz1 dX4_pairs_26 rfl rfl rfl ?_
      refine am_iinc (v := v3 + 1) (lv' := [(3, .int (v3 + 1)), (2, .int (v2 + (q_bc (I p1 v3.toNatClampNeg)))), (0, .ref ((zB z).size + o)), (1, .ref ((zB z).size + p1))]) hz1 dX4_pairs_27 3 rfl rfl rfl rfl ?_
      refine am_goto (tgt := 4) hz1 dX4_pairs_30 (by decide) ?_
      exact am_sub (lv' := [(0, .ref ((zB z).size + o)), (1, .ref ((zB z).size + p1)), (2, .int (v2 + (q_bc (I p1 v3.toNatClampNeg)))), (3, .int (v3 + 1))]) [2, 3, 1, 0] rfl h
set_option maxRecDepth 100000 in
set_option maxHeartbeats 4000000 in
theorem c_X4_pairs {l : Launch} {D : va_G} {B : Heap} {G : amG} {I : amI} {L : amL} {o : Nat} {p1 : Nat} (hG : Lay G) (ho : isO o) (hn_p1 : p1 < gN G) (hk_p1 : gK G p1 = 50) (hl_p1 : gL G p1 = 16)  (hs : szOk I o) : Fx l D B yX4_pairs cX4_pairs 4 (some .int) 1 [.ref (B.size + o), .ref (B.size + p1)] G I L (some (.int (q_pairs I o p1))) I L := by
  refine Mx.of (by decide) rfl rfl (fun z e1 e2 e3 hz => ?_)
  subst e1; subst e2; subst e3
  refine b_X4_pairs_0 hz hG ho hn_p1 hk_p1 hl_p1 ?_
  obtain ⟨n, hn1, h16, hn⟩ := hs
  refine for_up (P := fun i => Wx z 0 0 4 [(0, .ref ((zB z).size + o)), (1, .ref ((zB z).size + p1)), (2, .int (sumI (fun x => q_bc (I p1 x)) i)), (3, .int (nI i))] [] G I L) (n := n) ?_ ?_ (Nat.zero_le n)
  · exact b_X4_pairs_4 hz hG ho hn_p1 hk_p1 hl_p1 ⟨fun _ => ⟨by rw [q_pairs, sz_eq hn h16], rfl, rfl, rfl⟩, fun h => absurd (sz_le hn h16) h⟩
  · intro i hi ih
    refine b_X4_pairs_4 hz hG ho hn_p1 hk_p1 hl_p1 ⟨fun h => absurd h (sz_ge hn h16 hi), fun _ => ⟨fun h => absurd h (no16 h16 hi), fun _ => ⟨in16 h16 hi, ?_⟩⟩⟩
    rw [nI_1, cl_nI (by omega)]
    exact ih
set_option maxRecDepth 100000 in
set_option maxHeartbeats 4000000 in
theorem b_X4_without_0 {z : amZ} {post : amP} {G : amG} {I : amI} {L : amL} (hz : Go z cX4_without RX4 4 (some .int) 0 0 0 post) (hG : Lay G) {o : Nat} (ho : isO o) {p1 : Nat} (hn_p1 : p1 < gN G) (hk_p1 : gK G p1 = 50) (hl_p1 : gL G p1 = 16)  (h : Wx z 0 0 4 [(0, .ref ((zB z).size + o)), (1, .ref ((zB z).size + p1)), (2, .int 0), (3, .int 0)] [] G I L) : Wx z 0 0 0 [(0, .ref ((zB z).size + o)), (1, .ref ((zB z).size + p1))] [] G I L := by
  have hz1 := hz.1
  refine am_iconst (v := 0) hz1 dX4_without_0 (by decide) ?_
  refine am_istore_n (lv' := [(2, .int 0), (0, .ref ((zB z).size + o)), (1, .ref ((zB z).size + p1))]) hz1 dX4_without_1 rfl rfl rfl ?_
  refine am_iconst (v := 0) hz1 dX4_without_2 (by decide) ?_
  refine am_istore_n (lv' := [(3, .int 0), (2, .int 0), (0, .ref ((zB z).size + o)), (1, .ref ((zB z).size + p1))]) hz1 dX4_without_3 rfl rfl rfl ?_
  exact am_sub (lv' := [(0, .ref ((zB z).size + o)), (1, .ref ((zB z).size + p1)), (2, .int 0), (3, .int 0)]) [2, 3, 1, 0] rfl h
set_option maxRecDepth 100000 in
set_option maxHeartbeats 4000000 in
theorem b_X4_without_4 {z : amZ} {post : amP} {G : amG} {I : amI} {L : amL} (hz : Go z cX4_without RX4 4 (some .int) 0 0 0 post) (hG : Lay G) {o : Nat} (ho : isO o) {p1 : Nat} (hn_p1 : p1 < gN G) (hk_p1 : gK G p1 = 50) (hl_p1 : gL G p1 = 16) {v2 : Int32} {v3 : Int32} (h : (((I o 0) ≤ v3) → post (some (.int v2)) G I L) ∧ ((¬ (I o 0) ≤ v3) → (((Int32.ofNat 16) ≤ v3) → post (some (.int v2)) G I L) ∧ ((¬ (Int32.ofNat 16) ≤ v3) → vp_in v3 16 ∧ ((¬ (I p1 v3.toNatClampNeg) = 0) → Wx z 0 0 4 [(0, .ref ((zB z).size + o)), (1, .ref ((zB z).size + p1)), (2, .int v2), (3, .int (v3 + 1))] [] G I L) ∧ (((I p1 v3.toNatClampNeg) = 0) → Wx z 0 0 4 [(0, .ref ((zB z).size + o)), (1, .ref ((zB z).size + p1)), (2, .int (v2 ||| ((1 : Int32) <<< (v3 &&& 31)))), (3, .int (v3 + 1))] [] G I L)))) : Wx z 0 0 4 [(0, .ref ((zB z).size + o)), (1, .ref ((zB z).size + p1)), (2, .int v2), (3, .int v3)] [] G I L := by
  have hz1 := hz.1
  refine am_iload_n hz1 dX4_without_4 3 rfl rfl ?_
  refine am_aload_n hz1 dX4_without_5 0 rfl rfl ?_
  refine am_getI hz1 fl_X4_9 (oN hG ho) (oK hG ho) rfl dX4_without_6 ?_
  refine am_icmp_ge (tgt := 36) hz1 dX4_without_9 (by decide) (fun c1 => ?_) (fun c1 => ?_)
  · replace h := h.1 c1
    refine am_iload_n hz1 dX4_without_36 2 rfl rfl ?_
    exact am_ireturn hz dX4_without_37 h
  · replace h := h.2 c1
    refine am_iload_n hz1 dX4_without_12 3 rfl rfl ?_
    refine am_aload_n hz1 dX4_without_13 1 rfl rfl ?_
    refine am_alenI hz1 hn_p1 hk_p1 dX4_without_14 ?_
    rw [hl_p1]
    refine am_icmp_ge (tgt := 36) hz1 dX4_without_15 (by decide) (fun c2 => ?_) (fun c2 => ?_)
    · replace h := h.1 c2
      refine am_iload_n hz1 dX4_without_36 2 rfl rfl ?_
      exact am_ireturn hz dX4_without_37 h
    · replace h := h.2 c2
      refine am_aload_n hz1 dX4_without_18 1 rfl rfl ?_
      refine am_iload_n hz1 dX4_without_19 3 rfl rfl ?_
      obtain ⟨g3, h⟩ := h
      refine am_iald hz1 hn_p1 hk_p1 (by rw [hl_p1]; exact g3) dX4_without_20 ?_
      refine am_if_ne (tgt := 30) hz1 dX4_without_21 (by decide) (fun c4 => ?_) (fun c4 => ?_)
      · replace h := h.1 c4
        refine am_iinc (v := v3 + 1) (lv' := [(3, .int (v3 + 1)), (0, .ref ((zB z).size + o)), (1, .ref ((zB z).size + p1)), (2, .int v2)]) hz1 dX4_without_30 3 rfl rfl rfl rfl ?_
        refine am_goto (tgt := 4) hz1 dX4_without_33 (by decide) ?_
        exact am_sub (lv' := [(0, .ref ((zB z).size + o)), (1, .ref ((zB z).size + p1)), (2, .int v2), (3, .int (v3 + 1))]) [1, 2, 3, 0] rfl h
      · replace h := h.2 c4
        refine am_iload_n hz1 dX4_without_24 2 rfl rfl ?_
        refine am_iconst (v := 1) hz1 dX4_without_25 (by decide) ?_
        refine am_iload_n hz1 dX4_without_26 3 rfl rfl ?_
        refine am_ishl hz1 dX4_without_27 ?_
        refine am_ior hz1 dX4_without_28 ?_
        refine am_istore_n (lv' := [(2, .int (v2 ||| ((1 : Int32) <<< (v3 &&& 31)))), (0, .ref ((zB z).size + o)), (1, .ref ((zB z).size + p1)), (3, .int v3)]) hz1 dX4_without_29 rfl rfl rfl ?_
        refine am_iinc (v := v3 + 1) (lv' := [(3, .int (v3 + 1)), (2, .int (v2 ||| ((1 : Int32) <<< (v3 &&& 31)))), (0, .ref ((zB z).size + o)), (1, .ref ((zB z).size + p1))]) hz1 dX4_without_30 3 rfl rfl rfl rfl ?_
        refine am_goto (tgt := 4) hz1 dX4_without_33 (by decide) ?_
        exact am_sub (lv' := [(0, .ref ((zB z).size + o)), (1, .ref ((zB z).size + p1)), (2, .int (v2 ||| ((1 : Int32) <<< (v3 &&& 31)))), (3, .int (v3 + 1))]) [2, 3, 1, 0] rfl h
set_option maxRecDepth 100000 in
set_option maxHeartbeats 4000000 in
theorem c_X4_without {l : Launch} {D : va_G} {B : Heap} {G : amG} {I : amI} {L : amL} {o : Nat} {p1 : Nat} (hG : Lay G) (ho : isO o) (hn_p1 : p1 < gN G) (hk_p1 : gK G p1 = 50) (hl_p1 : gL G p1 = 16)  (hs : szOk I o) : Fx l D B yX4_without cX4_without 4 (some .int) 0 [.ref (B.size + o), .ref (B.size + p1)] G I L (some (.int (q_without I o p1))) I L := by
  refine Mx.of (by decide) rfl rfl (fun z e1 e2 e3 hz => ?_)
  subst e1; subst e2; subst e3
  refine b_X4_without_0 hz hG ho hn_p1 hk_p1 hl_p1 ?_
  obtain ⟨n, hn1, h16, hn⟩ := hs
  refine for_up (P := fun i => Wx z 0 0 4 [(0, .ref ((zB z).size + o)), (1, .ref ((zB z).size + p1)), (2, .int (mkset (fun x => decide (I p1 x = 0)) i)), (3, .int (nI i))] [] G I L) (n := n) ?_ ?_ (Nat.zero_le n)
  · exact b_X4_without_4 hz hG ho hn_p1 hk_p1 hl_p1 ⟨fun _ => ⟨by rw [q_without, sz_eq hn h16], rfl, rfl, rfl⟩, fun h => absurd (sz_le hn h16) h⟩
  · intro i hi ih
    refine b_X4_without_4 hz hG ho hn_p1 hk_p1 hl_p1 ⟨fun h => absurd h (sz_ge hn h16 hi), fun _ => ⟨fun h => absurd h (no16 h16 hi), fun _ => ⟨in16 h16 hi, fun h => ?_, fun h => ?_⟩⟩⟩
    · rw [cl_nI (by omega)] at h
      rw [mkset, if_neg (by simpa using h), Int32.or_zero] at ih
      rw [nI_1]
      exact ih
    · rw [cl_nI (by omega)] at h
      rw [mkset, if_pos (by simpa using h)] at ih
      rw [nI_1]
      exact ih
set_option maxRecDepth 100000 in
set_option maxHeartbeats 4000000 in
theorem b_X4_least_0 {z : amZ} {post : amP} {G : amG} {I : amI} {L : amL} (hz : Go z cX4_least RX4 3 (some .int) 2 0 0 post) (hG : Lay G) {o : Nat} (ho : isO o) {v1 : Int32} (h : Wx z 0 0 2 [(0, .ref ((zB z).size + o)), (1, .int v1), (2, .int 0)] [] G I L) : Wx z 0 0 0 [(0, .ref ((zB z).size + o)), (1, .int v1)] [] G I L := by
  have hz1 := hz.1
  refine am_iconst (v := 0) hz1 dX4_least_0 (by decide) ?_
  refine am_istore_n (lv' := [(2, .int 0), (0, .ref ((zB z).size + o)), (1, .int v1)]) hz1 dX4_least_1 rfl rfl rfl ?_
  exact am_sub (lv' := [(0, .ref ((zB z).size + o)), (1, .int v1), (2, .int 0)]) [1, 2, 0] rfl h
set_option maxRecDepth 100000 in
set_option maxHeartbeats 4000000 in
theorem b_X4_least_2 {z : amZ} {post : amP} {G : amG} {I : amI} {L : amL} (hz : Go z cX4_least RX4 3 (some .int) 2 0 0 post) (hG : Lay G) {o : Nat} (ho : isO o) {v1 : Int32} {v2 : Int32} (h : (((I o 0) ≤ v2) → post (some (.int (-2))) G I L) ∧ ((¬ (I o 0) ≤ v2) → ((¬ ((v1 >>> (v2 &&& 31)) &&& (1 : Int32)) = (1 : Int32)) → Wx z 0 0 2 [(0, .ref ((zB z).size + o)), (1, .int v1), (2, .int (v2 + 1))] [] G I L) ∧ ((((v1 >>> (v2 &&& 31)) &&& (1 : Int32)) = (1 : Int32)) → (szOk I o) ∧ ((¬ (v1 &&& ((q_from I o v2) ^^^ (-1 : Int32))) = 0) → Wx z 0 0 2 [(0, .ref ((zB z).size + o)), (1, .int v1), (2, .int (v2 + 1))] [] G I L) ∧ (((v1 &&& ((q_from I o v2) ^^^ (-1 : Int32))) = 0) → post (some (.int v2)) G I L)))) : Wx z 0 0 2 [(0, .ref ((zB z).size + o)), (1, .int v1), (2, .int v2)] [] G I L := by
  have hz1 := hz.1
  refine am_iload_n hz1 dX4_least_2 2 rfl rfl ?_
  refine am_aload_n hz1 dX4_least_3 0 rfl rfl ?_
  refine am_getI hz1 fl_X4_9 (oN hG ho) (oK hG ho) rfl dX4_least_4 ?_
  refine am_icmp_ge (tgt := 39) hz1 dX4_least_7 (by decide) (fun c1 => ?_) (fun c1 => ?_)
  · replace h := h.1 c1
    refine am_bipush (v := (-2)) hz1 dX4_least_39 (by decide) ?_
    exact am_ireturn hz dX4_least_41 h
  · replace h := h.2 c1
    refine am_iload_n hz1 dX4_least_10 1 rfl rfl ?_
    refine am_iload_n hz1 dX4_least_11 2 rfl rfl ?_
    refine am_ishr hz1 dX4_least_12 ?_
    refine am_iconst (v := 1) hz1 dX4_least_13 (by decide) ?_
    refine am_iand hz1 dX4_least_14 ?_
    refine am_iconst (v := 1) hz1 dX4_least_15 (by decide) ?_
    refine am_icmp_ne (tgt := 33) hz1 dX4_least_16 (by decide) (fun c2 => ?_) (fun c2 => ?_)
    · replace h := h.1 c2
      refine am_iinc (v := v2 + 1) (lv' := [(2, .int (v2 + 1)), (0, .ref ((zB z).size + o)), (1, .int v1)]) hz1 dX4_least_33 2 rfl rfl rfl rfl ?_
      refine am_goto (tgt := 2) hz1 dX4_least_36 (by decide) ?_
      exact am_sub (lv' := [(0, .ref ((zB z).size + o)), (1, .int v1), (2, .int (v2 + 1))]) [1, 2, 0] rfl h
    · replace h := h.2 c2
      refine am_iload_n hz1 dX4_least_19 1 rfl rfl ?_
      refine am_aload_n hz1 dX4_least_20 0 rfl rfl ?_
      refine am_iload_n hz1 dX4_least_21 2 rfl rfl ?_
      obtain ⟨g3, h⟩ := h
      refine am_cVf hz cv_X4_53 [.int v2] [.int v1] (c_X4_from hG ho v2 g3) (oN hG ho) (oK hG ho) rfl rfl rfl ⟨Nat.le_refl _, Nat.le_refl _⟩ (Nat.le_of_ble_eq_true rfl) dX4_least_22 ?_
      refine am_iconst (v := (-1)) hz1 dX4_least_25 (by decide) ?_
      refine am_ixor hz1 dX4_least_26 ?_
      refine am_iand hz1 dX4_least_27 ?_
      refine am_if_ne (tgt := 33) hz1 dX4_least_28 (by decide) (fun c4 => ?_) (fun c4 => ?_)
      · replace h := h.1 c4
        refine am_iinc (v := v2 + 1) (lv' := [(2, .int (v2 + 1)), (0, .ref ((zB z).size + o)), (1, .int v1)]) hz1 dX4_least_33 2 rfl rfl rfl rfl ?_
        refine am_goto (tgt := 2) hz1 dX4_least_36 (by decide) ?_
        exact am_sub (lv' := [(0, .ref ((zB z).size + o)), (1, .int v1), (2, .int (v2 + 1))]) [1, 2, 0] rfl h
      · replace h := h.2 c4
        refine am_iload_n hz1 dX4_least_31 2 rfl rfl ?_
        exact am_ireturn hz dX4_least_32 h
set_option maxRecDepth 100000 in
set_option maxHeartbeats 4000000 in
theorem c_X4_least {l : Launch} {D : va_G} {B : Heap} {G : amG} {I : amI} {L : amL} {o : Nat} (hG : Lay G) (ho : isO o) (v1 : Int32) (hs : szOk I o) : Fx l D B yX4_least cX4_least 3 (some .int) 2 [.ref (B.size + o), .int v1] G I L (some (.int (q_least I o v1))) I L := by
  refine Mx.of (by decide) rfl rfl (fun z e1 e2 e3 hz => ?_)
  subst e1; subst e2; subst e3
  refine b_X4_least_0 hz hG ho ?_
  obtain ⟨n, hn1, h16, hn⟩ := id hs
  refine for_up (P := fun i => scan (p_least I o v1) nI (-2) (n - i) i = q_least I o v1 → Wx z 0 0 2 [(0, .ref ((zB z).size + o)), (1, .int v1), (2, .int (nI i))] [] G I L) (n := n) ?_ ?_ (Nat.zero_le n) (by rw [q_least, sz_eq hn h16, Nat.sub_zero])
  · intro e
    rw [scan_0] at e
    exact b_X4_least_2 hz hG ho ⟨fun _ => ⟨by rw [e], rfl, rfl, rfl⟩, fun h => absurd (sz_le hn h16) h⟩
  · intro i hi ih e
    rw [scan_s hi] at e
    refine b_X4_least_2 hz hG ho ⟨fun h => absurd h (sz_ge hn h16 hi), fun _ => ⟨fun h => ?_, fun h => ⟨hs, fun h2 => ?_, fun h2 => ?_⟩⟩⟩
    · rw [if_neg (by simp [p_least, (b_bit0 v1 i (by omega)).mp h])] at e
      rw [nI_1]
      exact ih e
    · rw [if_neg (by rw [p_least, decide_eq_false h2, Bool.and_false]; decide)] at e
      rw [nI_1]
      exact ih e
    · rw [if_pos (by rw [p_least, decide_eq_true h2, (b_bit v1 i (by omega)).mp h]; rfl)] at e
      exact ⟨by rw [e], rfl, rfl, rfl⟩
set_option maxRecDepth 100000 in
set_option maxHeartbeats 4000000 in
theorem b_X4_greatest_0 {z : amZ} {post : amP} {G : amG} {I : amI} {L : amL} (hz : Go z cX4_greatest RX4 3 (some .int) 2 0 0 post) (hG : Lay G) {o : Nat} (ho : isO o) {v1 : Int32} (h : Wx z 0 0 2 [(0, .ref ((zB z).size + o)), (1, .int v1), (2, .int 0)] [] G I L) : Wx z 0 0 0 [(0, .ref ((zB z).size + o)), (1, .int v1)] [] G I L := by
  have hz1 := hz.1
  refine am_iconst (v := 0) hz1 dX4_greatest_0 (by decide) ?_
  refine am_istore_n (lv' := [(2, .int 0), (0, .ref ((zB z).size + o)), (1, .int v1)]) hz1 dX4_greatest_1 rfl rfl rfl ?_
  exact am_sub (lv' := [(0, .ref ((zB z).size + o)), (1, .int v1), (2, .int 0)]) [1, 2, 0] rfl h
set_option maxRecDepth 100000 in
set_option maxHeartbeats 4000000 in
theorem b_X4_greatest_2 {z : amZ} {post : amP} {G : amG} {I : amI} {L : amL} (hz : Go z cX4_greatest RX4 3 (some .int) 2 0 0 post) (hG : Lay G) {o : Nat} (ho : isO o) {v1 : Int32} {v2 : Int32} (h : (((I o 0) ≤ v2) → post (some (.int (-2))) G I L) ∧ ((¬ (I o 0) ≤ v2) → ((¬ ((v1 >>> (v2 &&& 31)) &&& (1 : Int32)) = (1 : Int32)) → Wx z 0 0 2 [(0, .ref ((zB z).size + o)), (1, .int v1), (2, .int (v2 + 1))] [] G I L) ∧ ((((v1 >>> (v2 &&& 31)) &&& (1 : Int32)) = (1 : Int32)) → (szOk I o) ∧ ((¬ (v1 &&& ((q_upTo I o v2) ^^^ (-1 : Int32))) = 0) → Wx z 0 0 2 [(0, .ref ((zB z).size + o)), (1, .int v1), (2, .int (v2 + 1))] [] G I L) ∧ (((v1 &&& ((q_upTo I o v2) ^^^ (-1 : Int32))) = 0) → post (some (.int v2)) G I L)))) : Wx z 0 0 2 [(0, .ref ((zB z).size + o)), (1, .int v1), (2, .int v2)] [] G I L := by
  have hz1 := hz.1
  refine am_iload_n hz1 dX4_greatest_2 2 rfl rfl ?_
  refine am_aload_n hz1 dX4_greatest_3 0 rfl rfl ?_
  refine am_getI hz1 fl_X4_9 (oN hG ho) (oK hG ho) rfl dX4_greatest_4 ?_
  refine am_icmp_ge (tgt := 39) hz1 dX4_greatest_7 (by decide) (fun c1 => ?_) (fun c1 => ?_)
  · replace h := h.1 c1
    refine am_bipush (v := (-2)) hz1 dX4_greatest_39 (by decide) ?_
    exact am_ireturn hz dX4_greatest_41 h
  · replace h := h.2 c1
    refine am_iload_n hz1 dX4_greatest_10 1 rfl rfl ?_
    refine am_iload_n hz1 dX4_greatest_11 2 rfl rfl ?_
    refine am_ishr hz1 dX4_greatest_12 ?_
    refine am_iconst (v := 1) hz1 dX4_greatest_13 (by decide) ?_
    refine am_iand hz1 dX4_greatest_14 ?_
    refine am_iconst (v := 1) hz1 dX4_greatest_15 (by decide) ?_
    refine am_icmp_ne (tgt := 33) hz1 dX4_greatest_16 (by decide) (fun c2 => ?_) (fun c2 => ?_)
    · replace h := h.1 c2
      refine am_iinc (v := v2 + 1) (lv' := [(2, .int (v2 + 1)), (0, .ref ((zB z).size + o)), (1, .int v1)]) hz1 dX4_greatest_33 2 rfl rfl rfl rfl ?_
      refine am_goto (tgt := 2) hz1 dX4_greatest_36 (by decide) ?_
      exact am_sub (lv' := [(0, .ref ((zB z).size + o)), (1, .int v1), (2, .int (v2 + 1))]) [1, 2, 0] rfl h
    · replace h := h.2 c2
      refine am_iload_n hz1 dX4_greatest_19 1 rfl rfl ?_
      refine am_aload_n hz1 dX4_greatest_20 0 rfl rfl ?_
      refine am_iload_n hz1 dX4_greatest_21 2 rfl rfl ?_
      obtain ⟨g3, h⟩ := h
      refine am_cVf hz cv_X4_103 [.int v2] [.int v1] (c_X4_upTo hG ho v2 g3) (oN hG ho) (oK hG ho) rfl rfl rfl ⟨Nat.le_refl _, Nat.le_refl _⟩ (Nat.le_of_ble_eq_true rfl) dX4_greatest_22 ?_
      refine am_iconst (v := (-1)) hz1 dX4_greatest_25 (by decide) ?_
      refine am_ixor hz1 dX4_greatest_26 ?_
      refine am_iand hz1 dX4_greatest_27 ?_
      refine am_if_ne (tgt := 33) hz1 dX4_greatest_28 (by decide) (fun c4 => ?_) (fun c4 => ?_)
      · replace h := h.1 c4
        refine am_iinc (v := v2 + 1) (lv' := [(2, .int (v2 + 1)), (0, .ref ((zB z).size + o)), (1, .int v1)]) hz1 dX4_greatest_33 2 rfl rfl rfl rfl ?_
        refine am_goto (tgt := 2) hz1 dX4_greatest_36 (by decide) ?_
        exact am_sub (lv' := [(0, .ref ((zB z).size + o)), (1, .int v1), (2, .int (v2 + 1))]) [1, 2, 0] rfl h
      · replace h := h.2 c4
        refine am_iload_n hz1 dX4_greatest_31 2 rfl rfl ?_
        exact am_ireturn hz dX4_greatest_32 h
set_option maxRecDepth 100000 in
set_option maxHeartbeats 4000000 in
theorem c_X4_greatest {l : Launch} {D : va_G} {B : Heap} {G : amG} {I : amI} {L : amL} {o : Nat} (hG : Lay G) (ho : isO o) (v1 : Int32) (hs : szOk I o) : Fx l D B yX4_greatest cX4_greatest 3 (some .int) 2 [.ref (B.size + o), .int v1] G I L (some (.int (q_greatest I o v1))) I L := by
  refine Mx.of (by decide) rfl rfl (fun z e1 e2 e3 hz => ?_)
  subst e1; subst e2; subst e3
  refine b_X4_greatest_0 hz hG ho ?_
  obtain ⟨n, hn1, h16, hn⟩ := id hs
  refine for_up (P := fun i => scan (p_greatest I o v1) nI (-2) (n - i) i = q_greatest I o v1 → Wx z 0 0 2 [(0, .ref ((zB z).size + o)), (1, .int v1), (2, .int (nI i))] [] G I L) (n := n) ?_ ?_ (Nat.zero_le n) (by rw [q_greatest, sz_eq hn h16, Nat.sub_zero])
  · intro e
    rw [scan_0] at e
    exact b_X4_greatest_2 hz hG ho ⟨fun _ => ⟨by rw [e], rfl, rfl, rfl⟩, fun h => absurd (sz_le hn h16) h⟩
  · intro i hi ih e
    rw [scan_s hi] at e
    refine b_X4_greatest_2 hz hG ho ⟨fun h => absurd h (sz_ge hn h16 hi), fun _ => ⟨fun h => ?_, fun h => ⟨hs, fun h2 => ?_, fun h2 => ?_⟩⟩⟩
    · rw [if_neg (by simp [p_greatest, (b_bit0 v1 i (by omega)).mp h])] at e
      rw [nI_1]
      exact ih e
    · rw [if_neg (by rw [p_greatest, decide_eq_false h2, Bool.and_false]; decide)] at e
      rw [nI_1]
      exact ih e
    · rw [if_pos (by rw [p_greatest, decide_eq_true h2, (b_bit v1 i (by omega)).mp h]; rfl)] at e
      exact ⟨by rw [e], rfl, rfl, rfl⟩
set_option maxRecDepth 100000 in
set_option maxHeartbeats 4000000 in
theorem b_X4_hasJoinsWithin_0 {z : amZ} {post : amP} {G : amG} {I : amI} {L : amL} (hz : Go z cX4_hasJoinsWithin RX4 5 (some .boolean) 3 0 0 post) (hG : Lay G) {o : Nat} (ho : isO o) {v1 : Int32} (h : Wx z 0 0 2 [(0, .ref ((zB z).size + o)), (1, .int v1), (2, .int 0)] [] G I L) : Wx z 0 0 0 [(0, .ref ((zB z).size + o)), (1, .int v1)] [] G I L := by
  have hz1 := hz.1
  refine am_iconst (v := 0) hz1 dX4_hasJoinsWithin_0 (by decide) ?_
  refine am_istore_n (lv' := [(2, .int 0), (0, .ref ((zB z).size + o)), (1, .int v1)]) hz1 dX4_hasJoinsWithin_1 rfl rfl rfl ?_
  exact am_sub (lv' := [(0, .ref ((zB z).size + o)), (1, .int v1), (2, .int 0)]) [1, 2, 0] rfl h
set_option maxRecDepth 100000 in
set_option maxHeartbeats 4000000 in
theorem b_X4_hasJoinsWithin_2 {z : amZ} {post : amP} {G : amG} {I : amI} {L : amL} (hz : Go z cX4_hasJoinsWithin RX4 5 (some .boolean) 3 0 0 post) (hG : Lay G) {o : Nat} (ho : isO o) {v1 : Int32} {v2 : Int32} (h : (((I o 0) ≤ v2) → post (some (.int 1)) G I L) ∧ ((¬ (I o 0) ≤ v2) → Wx z 0 0 12 [(0, .ref ((zB z).size + o)), (1, .int v1), (2, .int v2), (3, .int 0)] [] G I L)) : Wx z 0 0 2 [(0, .ref ((zB z).size + o)), (1, .int v1), (2, .int v2)] [] G I L := by
  have hz1 := hz.1
  refine am_iload_n hz1 dX4_hasJoinsWithin_2 2 rfl rfl ?_
  refine am_aload_n hz1 dX4_hasJoinsWithin_3 0 rfl rfl ?_
  refine am_getI hz1 fl_X4_9 (oN hG ho) (oK hG ho) rfl dX4_hasJoinsWithin_4 ?_
  refine am_icmp_ge (tgt := 81) hz1 dX4_hasJoinsWithin_7 (by decide) (fun c1 => ?_) (fun c1 => ?_)
  · replace h := h.1 c1
    refine am_iconst (v := 1) hz1 dX4_hasJoinsWithin_81 (by decide) ?_
    exact am_zreturn hz (by decide) dX4_hasJoinsWithin_82 h
  · replace h := h.2 c1
    refine am_iconst (v := 0) hz1 dX4_hasJoinsWithin_10 (by decide) ?_
    refine am_istore_n (lv' := [(3, .int 0), (0, .ref ((zB z).size + o)), (1, .int v1), (2, .int v2)]) hz1 dX4_hasJoinsWithin_11 rfl rfl rfl ?_
    exact am_sub (lv' := [(0, .ref ((zB z).size + o)), (1, .int v1), (2, .int v2), (3, .int 0)]) [1, 2, 3, 0] rfl h
set_option maxRecDepth 100000 in
set_option maxHeartbeats 4000000 in
theorem b_X4_hasJoinsWithin_12 {z : amZ} {post : amP} {G : amG} {I : amI} {L : amL} (hz : Go z cX4_hasJoinsWithin RX4 5 (some .boolean) 3 0 0 post) (hG : Lay G) {o : Nat} (ho : isO o) {v1 : Int32} {v2 : Int32} {v3 : Int32} (h : ((v2 ≤ v3) → Wx z 0 0 2 [(0, .ref ((zB z).size + o)), (1, .int v1), (2, .int (v2 + 1))] [] G I L) ∧ ((¬ v2 ≤ v3) → ((¬ ((v1 >>> (v2 &&& 31)) &&& (1 : Int32)) = (1 : Int32)) → Wx z 0 0 12 [(0, .ref ((zB z).size + o)), (1, .int v1), (2, .int v2), (3, .int (v3 + 1))] [] G I L) ∧ ((((v1 >>> (v2 &&& 31)) &&& (1 : Int32)) = (1 : Int32)) → ((¬ ((v1 >>> (v3 &&& 31)) &&& (1 : Int32)) = (1 : Int32)) → Wx z 0 0 12 [(0, .ref ((zB z).size + o)), (1, .int v1), (2, .int v2), (3, .int (v3 + 1))] [] G I L) ∧ ((((v1 >>> (v3 &&& 31)) &&& (1 : Int32)) = (1 : Int32)) → (szOk I o) ∧ (szOk I o) ∧ (szOk I o) ∧ ((0 ≤ (q_least I o ((v1 &&& (q_from I o v2)) &&& (q_from I o v3)))) → Wx z 0 0 12 [(0, .ref ((zB z).size + o)), (1, .int v1), (2, .int v2), (3, .int (v3 + 1))] [] G I L) ∧ ((¬ 0 ≤ (q_least I o ((v1 &&& (q_from I o v2)) &&& (q_from I o v3)))) → post (some (.int 0)) G I L))))) : Wx z 0 0 12 [(0, .ref ((zB z).size + o)), (1, .int v1), (2, .int v2), (3, .int v3)] [] G I L := by
  have hz1 := hz.1
  refine am_iload_n hz1 dX4_hasJoinsWithin_12 3 rfl rfl ?_
  refine am_iload_n hz1 dX4_hasJoinsWithin_13 2 rfl rfl ?_
  refine am_icmp_ge (tgt := 75) hz1 dX4_hasJoinsWithin_14 (by decide) (fun c1 => ?_) (fun c1 => ?_)
  · replace h := h.1 c1
    refine am_iinc (v := v2 + 1) (lv' := [(2, .int (v2 + 1)), (0, .ref ((zB z).size + o)), (1, .int v1), (3, .int v3)]) hz1 dX4_hasJoinsWithin_75 2 rfl rfl rfl rfl ?_
    refine am_goto (tgt := 2) hz1 dX4_hasJoinsWithin_78 (by decide) ?_
    exact am_sub (lv' := [(0, .ref ((zB z).size + o)), (1, .int v1), (2, .int (v2 + 1))]) [1, 2, 0] rfl h
  · replace h := h.2 c1
    refine am_iload_n hz1 dX4_hasJoinsWithin_17 1 rfl rfl ?_
    refine am_iload_n hz1 dX4_hasJoinsWithin_18 2 rfl rfl ?_
    refine am_ishr hz1 dX4_hasJoinsWithin_19 ?_
    refine am_iconst (v := 1) hz1 dX4_hasJoinsWithin_20 (by decide) ?_
    refine am_iand hz1 dX4_hasJoinsWithin_21 ?_
    refine am_iconst (v := 1) hz1 dX4_hasJoinsWithin_22 (by decide) ?_
    refine am_icmp_ne (tgt := 39) hz1 dX4_hasJoinsWithin_23 (by decide) (fun c2 => ?_) (fun c2 => ?_)
    · replace h := h.1 c2
      refine am_iconst (v := 0) hz1 dX4_hasJoinsWithin_39 (by decide) ?_
      refine am_istore (lv' := [(4, .int 0), (0, .ref ((zB z).size + o)), (1, .int v1), (2, .int v2), (3, .int v3)]) hz1 dX4_hasJoinsWithin_40 rfl rfl ?_
      refine am_iload hz1 dX4_hasJoinsWithin_42 0 rfl ?_
      refine am_if0 (tgt := 69) hz1 dX4_hasJoinsWithin_44 (by decide) ?_
      refine am_iinc (v := v3 + 1) (lv' := [(3, .int (v3 + 1)), (4, .int 0), (0, .ref ((zB z).size + o)), (1, .int v1), (2, .int v2)]) hz1 dX4_hasJoinsWithin_69 4 rfl rfl rfl rfl ?_
      refine am_goto (tgt := 12) hz1 dX4_hasJoinsWithin_72 (by decide) ?_
      exact am_sub (lv' := [(0, .ref ((zB z).size + o)), (1, .int v1), (2, .int v2), (3, .int (v3 + 1))]) [2, 3, 4, 0] rfl h
    · replace h := h.2 c2
      refine am_iload_n hz1 dX4_hasJoinsWithin_26 1 rfl rfl ?_
      refine am_iload_n hz1 dX4_hasJoinsWithin_27 3 rfl rfl ?_
      refine am_ishr hz1 dX4_hasJoinsWithin_28 ?_
      refine am_iconst (v := 1) hz1 dX4_hasJoinsWithin_29 (by decide) ?_
      refine am_iand hz1 dX4_hasJoinsWithin_30 ?_
      refine am_iconst (v := 1) hz1 dX4_hasJoinsWithin_31 (by decide) ?_
      refine am_icmp_ne (tgt := 39) hz1 dX4_hasJoinsWithin_32 (by decide) (fun c4 => ?_) (fun c4 => ?_)
      · replace h := h.1 c4
        refine am_iconst (v := 0) hz1 dX4_hasJoinsWithin_39 (by decide) ?_
        refine am_istore (lv' := [(4, .int 0), (0, .ref ((zB z).size + o)), (1, .int v1), (2, .int v2), (3, .int v3)]) hz1 dX4_hasJoinsWithin_40 rfl rfl ?_
        refine am_iload hz1 dX4_hasJoinsWithin_42 0 rfl ?_
        refine am_if0 (tgt := 69) hz1 dX4_hasJoinsWithin_44 (by decide) ?_
        refine am_iinc (v := v3 + 1) (lv' := [(3, .int (v3 + 1)), (4, .int 0), (0, .ref ((zB z).size + o)), (1, .int v1), (2, .int v2)]) hz1 dX4_hasJoinsWithin_69 4 rfl rfl rfl rfl ?_
        refine am_goto (tgt := 12) hz1 dX4_hasJoinsWithin_72 (by decide) ?_
        exact am_sub (lv' := [(0, .ref ((zB z).size + o)), (1, .int v1), (2, .int v2), (3, .int (v3 + 1))]) [2, 3, 4, 0] rfl h
      · replace h := h.2 c4
        refine am_iconst (v := 1) hz1 dX4_hasJoinsWithin_35 (by decide) ?_
        refine am_goto (tgt := 40) hz1 dX4_hasJoinsWithin_36 (by decide) ?_
        refine am_istore (lv' := [(4, .int 1), (0, .ref ((zB z).size + o)), (1, .int v1), (2, .int v2), (3, .int v3)]) hz1 dX4_hasJoinsWithin_40 rfl rfl ?_
        refine am_iload hz1 dX4_hasJoinsWithin_42 0 rfl ?_
        refine am_if1 (tgt := 69) hz1 dX4_hasJoinsWithin_44 (by decide) ?_
        refine am_aload_n hz1 dX4_hasJoinsWithin_47 1 rfl rfl ?_
        refine am_iload_n hz1 dX4_hasJoinsWithin_48 2 rfl rfl ?_
        refine am_aload_n hz1 dX4_hasJoinsWithin_49 1 rfl rfl ?_
        refine am_iload_n hz1 dX4_hasJoinsWithin_50 3 rfl rfl ?_
        obtain ⟨g7, h⟩ := h
        refine am_cVf hz cv_X4_53 [.int v2] [.int v1, .ref ((zB z).size + o)] (c_X4_from hG ho v2 g7) (oN hG ho) (oK hG ho) rfl rfl rfl ⟨Nat.le_refl _, Nat.le_refl _⟩ (Nat.le_of_ble_eq_true rfl) dX4_hasJoinsWithin_51 ?_
        refine am_iand hz1 dX4_hasJoinsWithin_54 ?_
        refine am_aload_n hz1 dX4_hasJoinsWithin_55 1 rfl rfl ?_
        refine am_iload_n hz1 dX4_hasJoinsWithin_56 4 rfl rfl ?_
        obtain ⟨g8, h⟩ := h
        refine am_cVf hz cv_X4_53 [.int v3] [.int (v1 &&& (q_from I o v2)), .ref ((zB z).size + o)] (c_X4_from hG ho v3 g8) (oN hG ho) (oK hG ho) rfl rfl rfl ⟨Nat.le_refl _, Nat.le_refl _⟩ (Nat.le_of_ble_eq_true rfl) dX4_hasJoinsWithin_57 ?_
        refine am_iand hz1 dX4_hasJoinsWithin_60 ?_
        obtain ⟨g9, h⟩ := h
        refine am_cVf hz cv_X4_106 [.int ((v1 &&& (q_from I o v2)) &&& (q_from I o v3))] [] (c_X4_least hG ho ((v1 &&& (q_from I o v2)) &&& (q_from I o v3)) g9) (oN hG ho) (oK hG ho) rfl rfl rfl ⟨Nat.le_refl _, Nat.le_refl _⟩ (Nat.le_of_ble_eq_true rfl) dX4_hasJoinsWithin_61 ?_
        refine am_if_ge (tgt := 69) hz1 dX4_hasJoinsWithin_64 (by decide) (fun c10 => ?_) (fun c10 => ?_)
        · replace h := h.1 c10
          refine am_iinc (v := v3 + 1) (lv' := [(3, .int (v3 + 1)), (4, .int 1), (0, .ref ((zB z).size + o)), (1, .int v1), (2, .int v2)]) hz1 dX4_hasJoinsWithin_69 4 rfl rfl rfl rfl ?_
          refine am_goto (tgt := 12) hz1 dX4_hasJoinsWithin_72 (by decide) ?_
          exact am_sub (lv' := [(0, .ref ((zB z).size + o)), (1, .int v1), (2, .int v2), (3, .int (v3 + 1))]) [2, 3, 4, 0] rfl h
        · replace h := h.2 c10
          refine am_iconst (v := 0) hz1 dX4_hasJoinsWithin_67 (by decide) ?_
          exact am_zreturn hz (by decide) dX4_hasJoinsWithin_68 h
set_option maxRecDepth 100000 in
set_option maxHeartbeats 4000000 in
theorem c_X4_hasJoinsWithin {l : Launch} {D : va_G} {B : Heap} {G : amG} {I : amI} {L : amL} {o : Nat} (hG : Lay G) (ho : isO o) (v1 : Int32) (hs : szOk I o) : Fx l D B yX4_hasJoinsWithin cX4_hasJoinsWithin 5 (some .boolean) 3 [.ref (B.size + o), .int v1] G I L (some (.int (bI (q_hasJ I o v1)))) I L := by
  refine Mx.of (by decide) rfl rfl (fun z e1 e2 e3 hz => ?_)
  subst e1; subst e2; subst e3
  refine b_X4_hasJoinsWithin_0 hz hG ho ?_
  obtain ⟨n, hn1, h16, hn⟩ := id hs
  refine for_up (P := fun i => scan (q_hasJ1 I o v1) (fun _ => false) true (n - i) i = q_hasJ I o v1 → Wx z 0 0 2 [(0, .ref ((zB z).size + o)), (1, .int v1), (2, .int (nI i))] [] G I L) (n := n) ?_ ?_ (Nat.zero_le n) (by rw [q_hasJ, sz_eq hn h16, Nat.sub_zero])
  · intro e
    rw [scan_0] at e
    exact b_X4_hasJoinsWithin_2 hz hG ho ⟨fun _ => ⟨by rw [← e]; rfl, rfl, rfl, rfl⟩, fun h => absurd (sz_le hn h16) h⟩
  · intro i hi ih e
    rw [scan_s hi] at e
    refine b_X4_hasJoinsWithin_2 hz hG ho ⟨fun h => absurd h (sz_ge hn h16 hi), fun _ => ?_⟩
    refine for_up (P := fun j => scan (p_hasJ I o v1 i) (fun _ => true) false (i - j) j = q_hasJ1 I o v1 i → Wx z 0 0 12 [(0, .ref ((zB z).size + o)), (1, .int v1), (2, .int (nI i)), (3, .int (nI j))] [] G I L) (n := i) ?_ ?_ (Nat.zero_le i) (by rw [q_hasJ1, Nat.sub_zero])
    · intro e2
      rw [scan_0] at e2
      rw [if_neg (by simp [← e2])] at e
      refine b_X4_hasJoinsWithin_12 hz hG ho ⟨fun _ => ?_, fun h => absurd (nI_le (Nat.le_refl _) (by omega)) h⟩
      rw [nI_1]
      exact ih e
    · intro j hj jh e2
      rw [scan_s hj] at e2
      refine b_X4_hasJoinsWithin_12 hz hG ho ⟨fun h => absurd h (nI_ge hj (by omega)), fun _ => ⟨fun h => ?_, fun h => ⟨fun h2 => ?_, fun h2 => ⟨hs, hs, hs, fun h3 => ?_, fun h3 => ?_⟩⟩⟩⟩
      · rw [if_neg (by simp [p_hasJ, (b_bit0 v1 i (by omega)).mp h])] at e2
        rw [nI_1]
        exact jh e2
      · rw [if_neg (by simp [p_hasJ, (b_bit0 v1 j (by omega)).mp h2])] at e2
        rw [nI_1]
        exact jh e2
      · rw [if_neg (by simp [p_hasJ, h3])] at e2
        rw [nI_1]
        exact jh e2
      · rw [if_pos (by simp only [p_hasJ, (b_bit v1 i (by omega)).mp h, (b_bit v1 j (by omega)).mp h2, Bool.true_and]; exact decide_eq_true h3)] at e2
        rw [if_pos e2.symm] at e
        exact ⟨by rw [← e]; rfl, rfl, rfl, rfl⟩
set_option maxRecDepth 100000 in
set_option maxHeartbeats 4000000 in
theorem b_X4_isLattice_0 {z : amZ} {post : amP} {G : amG} {I : amI} {L : amL} (hz : Go z cX4_isLattice RX4 3 (some .boolean) 4 0 0 post) (hG : Lay G) {o : Nat} (ho : isO o)  (h : Wx z 0 0 2 [(0, .ref ((zB z).size + o)), (1, .int 0)] [] G I L) : Wx z 0 0 0 [(0, .ref ((zB z).size + o))] [] G I L := by
  have hz1 := hz.1
  refine am_iconst (v := 0) hz1 dX4_isLattice_0 (by decide) ?_
  refine am_istore_n (lv' := [(1, .int 0), (0, .ref ((zB z).size + o))]) hz1 dX4_isLattice_1 rfl rfl rfl ?_
  exact am_sub (lv' := [(0, .ref ((zB z).size + o)), (1, .int 0)]) [1, 0] rfl h
set_option maxRecDepth 100000 in
set_option maxHeartbeats 4000000 in
theorem b_X4_isLattice_2 {z : amZ} {post : amP} {G : amG} {I : amI} {L : amL} (hz : Go z cX4_isLattice RX4 3 (some .boolean) 4 0 0 post) (hG : Lay G) {o : Nat} (ho : isO o) {v1 : Int32} (h : (((I o 0) ≤ v1) → (szOk I o) ∧ post (some (.int (bI (q_hasJ I o (q_all I o))))) G I L) ∧ ((¬ (I o 0) ≤ v1) → Wx z 0 0 12 [(0, .ref ((zB z).size + o)), (1, .int v1), (2, .int 0)] [] G I L)) : Wx z 0 0 2 [(0, .ref ((zB z).size + o)), (1, .int v1)] [] G I L := by
  have hz1 := hz.1
  refine am_iload_n hz1 dX4_isLattice_2 1 rfl rfl ?_
  refine am_aload_n hz1 dX4_isLattice_3 0 rfl rfl ?_
  refine am_getI hz1 fl_X4_9 (oN hG ho) (oK hG ho) rfl dX4_isLattice_4 ?_
  refine am_icmp_ge (tgt := 49) hz1 dX4_isLattice_7 (by decide) (fun c1 => ?_) (fun c1 => ?_)
  · replace h := h.1 c1
    refine am_aload_n hz1 dX4_isLattice_49 0 rfl rfl ?_
    refine am_aload_n hz1 dX4_isLattice_50 0 rfl rfl ?_
    refine am_cVf hz cv_X4_67 [] [.ref ((zB z).size + o)] (c_X4_all hG ho  ) (oN hG ho) (oK hG ho) rfl rfl rfl ⟨Nat.le_refl _, Nat.le_refl _⟩ (Nat.le_of_ble_eq_true rfl) dX4_isLattice_51 ?_
    obtain ⟨g2, h⟩ := h
    refine am_cVf hz cv_X4_112 [.int (q_all I o)] [] (c_X4_hasJoinsWithin hG ho (q_all I o) g2) (oN hG ho) (oK hG ho) rfl rfl rfl ⟨Nat.le_refl _, Nat.le_refl _⟩ (Nat.le_of_ble_eq_true rfl) dX4_isLattice_54 ?_
    exact am_zreturn hz (bI_01 _) dX4_isLattice_57 h
  · replace h := h.2 c1
    refine am_iconst (v := 0) hz1 dX4_isLattice_10 (by decide) ?_
    refine am_istore_n (lv' := [(2, .int 0), (0, .ref ((zB z).size + o)), (1, .int v1)]) hz1 dX4_isLattice_11 rfl rfl rfl ?_
    exact am_sub (lv' := [(0, .ref ((zB z).size + o)), (1, .int v1), (2, .int 0)]) [1, 2, 0] rfl h
set_option maxRecDepth 100000 in
set_option maxHeartbeats 4000000 in
theorem b_X4_isLattice_12 {z : amZ} {post : amP} {G : amG} {I : amI} {L : amL} (hz : Go z cX4_isLattice RX4 3 (some .boolean) 4 0 0 post) (hG : Lay G) {o : Nat} (ho : isO o) {v1 : Int32} {v2 : Int32} (h : ((v1 ≤ v2) → Wx z 0 0 2 [(0, .ref ((zB z).size + o)), (1, .int (v1 + 1))] [] G I L) ∧ ((¬ v1 ≤ v2) → (szOk I o) ∧ (szOk I o) ∧ (szOk I o) ∧ ((0 ≤ (q_greatest I o ((q_upTo I o v1) &&& (q_upTo I o v2)))) → Wx z 0 0 12 [(0, .ref ((zB z).size + o)), (1, .int v1), (2, .int (v2 + 1))] [] G I L) ∧ ((¬ 0 ≤ (q_greatest I o ((q_upTo I o v1) &&& (q_upTo I o v2)))) → post (some (.int 0)) G I L))) : Wx z 0 0 12 [(0, .ref ((zB z).size + o)), (1, .int v1), (2, .int v2)] [] G I L := by
  have hz1 := hz.1
  refine am_iload_n hz1 dX4_isLattice_12 2 rfl rfl ?_
  refine am_iload_n hz1 dX4_isLattice_13 1 rfl rfl ?_
  refine am_icmp_ge (tgt := 43) hz1 dX4_isLattice_14 (by decide) (fun c1 => ?_) (fun c1 => ?_)
  · replace h := h.1 c1
    refine am_iinc (v := v1 + 1) (lv' := [(1, .int (v1 + 1)), (0, .ref ((zB z).size + o)), (2, .int v2)]) hz1 dX4_isLattice_43 1 rfl rfl rfl rfl ?_
    refine am_goto (tgt := 2) hz1 dX4_isLattice_46 (by decide) ?_
    exact am_sub (lv' := [(0, .ref ((zB z).size + o)), (1, .int (v1 + 1))]) [1, 0] rfl h
  · replace h := h.2 c1
    refine am_aload_n hz1 dX4_isLattice_17 0 rfl rfl ?_
    refine am_aload_n hz1 dX4_isLattice_18 0 rfl rfl ?_
    refine am_iload_n hz1 dX4_isLattice_19 1 rfl rfl ?_
    obtain ⟨g2, h⟩ := h
    refine am_cVf hz cv_X4_103 [.int v1] [.ref ((zB z).size + o)] (c_X4_upTo hG ho v1 g2) (oN hG ho) (oK hG ho) rfl rfl rfl ⟨Nat.le_refl _, Nat.le_refl _⟩ (Nat.le_of_ble_eq_true rfl) dX4_isLattice_20 ?_
    refine am_aload_n hz1 dX4_isLattice_23 0 rfl rfl ?_
    refine am_iload_n hz1 dX4_isLattice_24 2 rfl rfl ?_
    obtain ⟨g3, h⟩ := h
    refine am_cVf hz cv_X4_103 [.int v2] [.int (q_upTo I o v1), .ref ((zB z).size + o)] (c_X4_upTo hG ho v2 g3) (oN hG ho) (oK hG ho) rfl rfl rfl ⟨Nat.le_refl _, Nat.le_refl _⟩ (Nat.le_of_ble_eq_true rfl) dX4_isLattice_25 ?_
    refine am_iand hz1 dX4_isLattice_28 ?_
    obtain ⟨g4, h⟩ := h
    refine am_cVf hz cv_X4_109 [.int ((q_upTo I o v1) &&& (q_upTo I o v2))] [] (c_X4_greatest hG ho ((q_upTo I o v1) &&& (q_upTo I o v2)) g4) (oN hG ho) (oK hG ho) rfl rfl rfl ⟨Nat.le_refl _, Nat.le_refl _⟩ (Nat.le_of_ble_eq_true rfl) dX4_isLattice_29 ?_
    refine am_if_ge (tgt := 37) hz1 dX4_isLattice_32 (by decide) (fun c5 => ?_) (fun c5 => ?_)
    · replace h := h.1 c5
      refine am_iinc (v := v2 + 1) (lv' := [(2, .int (v2 + 1)), (0, .ref ((zB z).size + o)), (1, .int v1)]) hz1 dX4_isLattice_37 2 rfl rfl rfl rfl ?_
      refine am_goto (tgt := 12) hz1 dX4_isLattice_40 (by decide) ?_
      exact am_sub (lv' := [(0, .ref ((zB z).size + o)), (1, .int v1), (2, .int (v2 + 1))]) [1, 2, 0] rfl h
    · replace h := h.2 c5
      refine am_iconst (v := 0) hz1 dX4_isLattice_35 (by decide) ?_
      exact am_zreturn hz (by decide) dX4_isLattice_36 h
set_option maxRecDepth 100000 in
set_option maxHeartbeats 4000000 in
theorem c_X4_isLattice {l : Launch} {D : va_G} {B : Heap} {G : amG} {I : amI} {L : amL} {o : Nat} (hG : Lay G) (ho : isO o)  (hs : szOk I o) : Fx l D B yX4_isLattice cX4_isLattice 3 (some .boolean) 4 [.ref (B.size + o)] G I L (some (.int (bI (q_isLat I o)))) I L := by
  refine Mx.of (by decide) rfl rfl (fun z e1 e2 e3 hz => ?_)
  subst e1; subst e2; subst e3
  refine b_X4_isLattice_0 hz hG ho ?_
  obtain ⟨n, hn1, h16, hn⟩ := id hs
  refine for_up (P := fun i => scan (q_isLat1 I o) (fun _ => false) (q_hasJ I o (q_all I o)) (n - i) i = q_isLat I o → Wx z 0 0 2 [(0, .ref ((zB z).size + o)), (1, .int (nI i))] [] G I L) (n := n) ?_ ?_ (Nat.zero_le n) (by rw [q_isLat, sz_eq hn h16, Nat.sub_zero])
  · intro e
    rw [scan_0] at e
    exact b_X4_isLattice_2 hz hG ho ⟨fun _ => ⟨hs, by rw [← e], rfl, rfl, rfl⟩, fun h => absurd (sz_le hn h16) h⟩
  · intro i hi ih e
    rw [scan_s hi] at e
    refine b_X4_isLattice_2 hz hG ho ⟨fun h => absurd h (sz_ge hn h16 hi), fun _ => ?_⟩
    refine for_up (P := fun j => scan (p_isLat I o i) (fun _ => true) false (i - j) j = q_isLat1 I o i → Wx z 0 0 12 [(0, .ref ((zB z).size + o)), (1, .int (nI i)), (2, .int (nI j))] [] G I L) (n := i) ?_ ?_ (Nat.zero_le i) (by rw [q_isLat1, Nat.sub_zero])
    · intro e2
      rw [scan_0] at e2
      rw [if_neg (by simp [← e2])] at e
      refine b_X4_isLattice_12 hz hG ho ⟨fun _ => ?_, fun h => absurd (nI_le (Nat.le_refl _) (by omega)) h⟩
      rw [nI_1]
      exact ih e
    · intro j hj jh e2
      rw [scan_s hj] at e2
      refine b_X4_isLattice_12 hz hG ho ⟨fun h => absurd h (nI_ge hj (by omega)), fun _ => ⟨hs, hs, hs, fun h3 => ?_, fun h3 => ?_⟩⟩
      · rw [if_neg (by simp [p_isLat, h3])] at e2
        rw [nI_1]
        exact jh e2
      · rw [if_pos (show p_isLat I o i j = true from decide_eq_true h3)] at e2
        rw [if_pos e2.symm] at e
        exact ⟨by rw [← e]; rfl, rfl, rfl, rfl⟩
set_option maxRecDepth 100000 in
set_option maxHeartbeats 4000000 in
theorem b_X4_greatestHeight_0 {z : amZ} {post : amP} {G : amG} {I : amI} {L : amL} (hz : Go z cX4_greatestHeight RX4 3 (some .int) 1 0 0 post) (hG : Lay G) {o : Nat} (ho : isO o)  (h : Wx z 0 0 4 [(0, .ref ((zB z).size + o)), (1, .int 0), (2, .int 0)] [] G I L) : Wx z 0 0 0 [(0, .ref ((zB z).size + o))] [] G I L := by
  have hz1 := hz.1
  refine am_iconst (v := 0) hz1 dX4_greatestHeight_0 (by decide) ?_
  refine am_istore_n (lv' := [(1, .int 0), (0, .ref ((zB z).size + o))]) hz1 dX4_greatestHeight_1 rfl rfl rfl ?_
  refine am_iconst (v := 0) hz1 dX4_greatestHeight_2 (by decide) ?_
  refine am_istore_n (lv' := [(2, .int 0), (1, .int 0), (0, .ref ((zB z).size + o))]) hz1 dX4_greatestHeight_3 rfl rfl rfl ?_
  exact am_sub (lv' := [(0, .ref ((zB z).size + o)), (1, .int 0), (2, .int 0)]) [2, 1, 0] rfl h
set_option maxRecDepth 100000 in
set_option maxHeartbeats 4000000 in
theorem b_X4_greatestHeight_4 {z : amZ} {post : amP} {G : amG} {I : amI} {L : amL} (hz : Go z cX4_greatestHeight RX4 3 (some .int) 1 0 0 post) (hG : Lay G) {o : Nat} (ho : isO o) {v1 : Int32} {v2 : Int32} (h : (((I o 0) ≤ v2) → post (some (.int v1)) G I L) ∧ ((¬ (I o 0) ≤ v2) → vp_in v2 16 ∧ Wx z 0 0 4 [(0, .ref ((zB z).size + o)), (1, .int (if v1 < (I (o + 5) v2.toNatClampNeg) then (I (o + 5) v2.toNatClampNeg) else v1)), (2, .int (v2 + 1))] [] G I L)) : Wx z 0 0 4 [(0, .ref ((zB z).size + o)), (1, .int v1), (2, .int v2)] [] G I L := by
  have hz1 := hz.1
  refine am_iload_n hz1 dX4_greatestHeight_4 2 rfl rfl ?_
  refine am_aload_n hz1 dX4_greatestHeight_5 0 rfl rfl ?_
  refine am_getI hz1 fl_X4_9 (oN hG ho) (oK hG ho) rfl dX4_greatestHeight_6 ?_
  refine am_icmp_ge (tgt := 29) hz1 dX4_greatestHeight_9 (by decide) (fun c1 => ?_) (fun c1 => ?_)
  · replace h := h.1 c1
    refine am_iload_n hz1 dX4_greatestHeight_29 1 rfl rfl ?_
    exact am_ireturn hz dX4_greatestHeight_30 h
  · replace h := h.2 c1
    refine am_iload_n hz1 dX4_greatestHeight_12 1 rfl rfl ?_
    refine am_aload_n hz1 dX4_greatestHeight_13 0 rfl rfl ?_
    refine am_getR hz1 fl_X4_28 (oN hG ho) (oK hG ho) (oR5 hG ho) rfl dX4_greatestHeight_14 ?_
    refine am_iload_n hz1 dX4_greatestHeight_17 2 rfl rfl ?_
    obtain ⟨g2, h⟩ := h
    refine am_iald hz1 (oN5 hG ho) (oK5 hG ho) (by rw [(oL5 hG ho)]; exact g2) dX4_greatestHeight_18 ?_
    refine am_mmax hz ct_X4_40 rfl ⟨Nat.le_refl _, Nat.le_refl _⟩ (Nat.le_of_ble_eq_true rfl) dX4_greatestHeight_19 ?_
    refine am_istore_n (lv' := [(1, .int (if v1 < (I (o + 5) v2.toNatClampNeg) then (I (o + 5) v2.toNatClampNeg) else v1)), (0, .ref ((zB z).size + o)), (2, .int v2)]) hz1 dX4_greatestHeight_22 rfl rfl rfl ?_
    refine am_iinc (v := v2 + 1) (lv' := [(2, .int (v2 + 1)), (1, .int (if v1 < (I (o + 5) v2.toNatClampNeg) then (I (o + 5) v2.toNatClampNeg) else v1)), (0, .ref ((zB z).size + o))]) hz1 dX4_greatestHeight_23 2 rfl rfl rfl rfl ?_
    refine am_goto (tgt := 4) hz1 dX4_greatestHeight_26 (by decide) ?_
    exact am_sub (lv' := [(0, .ref ((zB z).size + o)), (1, .int (if v1 < (I (o + 5) v2.toNatClampNeg) then (I (o + 5) v2.toNatClampNeg) else v1)), (2, .int (v2 + 1))]) [2, 1, 0] rfl h
set_option maxRecDepth 100000 in
set_option maxHeartbeats 4000000 in
theorem c_X4_greatestHeight {l : Launch} {D : va_G} {B : Heap} {G : amG} {I : amI} {L : amL} {o : Nat} (hG : Lay G) (ho : isO o)  (hs : szOk I o) : Fx l D B yX4_greatestHeight cX4_greatestHeight 3 (some .int) 1 [.ref (B.size + o)] G I L (some (.int (q_gh I o))) I L := by
  refine Mx.of (by decide) rfl rfl (fun z e1 e2 e3 hz => ?_)
  subst e1; subst e2; subst e3
  refine b_X4_greatestHeight_0 hz hG ho ?_
  obtain ⟨n, hn1, h16, hn⟩ := id hs
  refine for_up (P := fun i => Wx z 0 0 4 [(0, .ref ((zB z).size + o)), (1, .int (maxI (fun x => I (o + 5) x) i)), (2, .int (nI i))] [] G I L) (n := n) ?_ ?_ (Nat.zero_le n)
  · exact b_X4_greatestHeight_4 hz hG ho ⟨fun _ => ⟨by rw [q_gh, sz_eq hn h16], rfl, rfl, rfl⟩, fun h => absurd (sz_le hn h16) h⟩
  · intro i hi ih
    refine b_X4_greatestHeight_4 hz hG ho ⟨fun h => absurd h (sz_ge hn h16 hi), fun _ => ⟨in16 h16 hi, ?_⟩⟩
    rw [nI_1, cl_nI (by omega)]
    exact ih
set_option maxRecDepth 100000 in
set_option maxHeartbeats 4000000 in
theorem b_X4_isGraded_0 {z : amZ} {post : amP} {G : amG} {I : amI} {L : amL} (hz : Go z cX4_isGraded RX4 3 (some .boolean) 0 0 0 post) (hG : Lay G) {o : Nat} (ho : isO o)  (h : Wx z 0 0 2 [(0, .ref ((zB z).size + o)), (1, .int 0)] [] G I L) : Wx z 0 0 0 [(0, .ref ((zB z).size + o))] [] G I L := by
  have hz1 := hz.1
  refine am_iconst (v := 0) hz1 dX4_isGraded_0 (by decide) ?_
  refine am_istore_n (lv' := [(1, .int 0), (0, .ref ((zB z).size + o))]) hz1 dX4_isGraded_1 rfl rfl rfl ?_
  exact am_sub (lv' := [(0, .ref ((zB z).size + o)), (1, .int 0)]) [1, 0] rfl h
set_option maxRecDepth 100000 in
set_option maxHeartbeats 4000000 in
theorem b_X4_isGraded_2 {z : amZ} {post : amP} {G : amG} {I : amI} {L : amL} (hz : Go z cX4_isGraded RX4 3 (some .boolean) 0 0 0 post) (hG : Lay G) {o : Nat} (ho : isO o) {v1 : Int32} (h : (((I o 0) ≤ v1) → post (some (.int 1)) G I L) ∧ ((¬ (I o 0) ≤ v1) → Wx z 0 0 12 [(0, .ref ((zB z).size + o)), (1, .int v1), (2, .int 0)] [] G I L)) : Wx z 0 0 2 [(0, .ref ((zB z).size + o)), (1, .int v1)] [] G I L := by
  have hz1 := hz.1
  refine am_iload_n hz1 dX4_isGraded_2 1 rfl rfl ?_
  refine am_aload_n hz1 dX4_isGraded_3 0 rfl rfl ?_
  refine am_getI hz1 fl_X4_9 (oN hG ho) (oK hG ho) rfl dX4_isGraded_4 ?_
  refine am_icmp_ge (tgt := 65) hz1 dX4_isGraded_7 (by decide) (fun c1 => ?_) (fun c1 => ?_)
  · replace h := h.1 c1
    refine am_iconst (v := 1) hz1 dX4_isGraded_65 (by decide) ?_
    exact am_zreturn hz (by decide) dX4_isGraded_66 h
  · replace h := h.2 c1
    refine am_iconst (v := 0) hz1 dX4_isGraded_10 (by decide) ?_
    refine am_istore_n (lv' := [(2, .int 0), (0, .ref ((zB z).size + o)), (1, .int v1)]) hz1 dX4_isGraded_11 rfl rfl rfl ?_
    exact am_sub (lv' := [(0, .ref ((zB z).size + o)), (1, .int v1), (2, .int 0)]) [1, 2, 0] rfl h
set_option maxRecDepth 100000 in
set_option maxHeartbeats 4000000 in
theorem b_X4_isGraded_12 {z : amZ} {post : amP} {G : amG} {I : amI} {L : amL} (hz : Go z cX4_isGraded RX4 3 (some .boolean) 0 0 0 post) (hG : Lay G) {o : Nat} (ho : isO o) {v1 : Int32} {v2 : Int32} (h : (((I o 0) ≤ v2) → Wx z 0 0 2 [(0, .ref ((zB z).size + o)), (1, .int (v1 + 1))] [] G I L) ∧ ((¬ (I o 0) ≤ v2) → vp_in v1 16 ∧ ((¬ (((I (o + 4) v1.toNatClampNeg) >>> (v2 &&& 31)) &&& (1 : Int32)) = (1 : Int32)) → Wx z 0 0 12 [(0, .ref ((zB z).size + o)), (1, .int v1), (2, .int (v2 + 1))] [] G I L) ∧ (((((I (o + 4) v1.toNatClampNeg) >>> (v2 &&& 31)) &&& (1 : Int32)) = (1 : Int32)) → vp_in v2 16 ∧ vp_in v1 16 ∧ ((((I (o + 5) v2.toNatClampNeg) + (1 : Int32)) = (I (o + 5) v1.toNatClampNeg)) → Wx z 0 0 12 [(0, .ref ((zB z).size + o)), (1, .int v1), (2, .int (v2 + 1))] [] G I L) ∧ ((¬ ((I (o + 5) v2.toNatClampNeg) + (1 : Int32)) = (I (o + 5) v1.toNatClampNeg)) → post (some (.int 0)) G I L)))) : Wx z 0 0 12 [(0, .ref ((zB z).size + o)), (1, .int v1), (2, .int v2)] [] G I L := by
  have hz1 := hz.1
  refine am_iload_n hz1 dX4_isGraded_12 2 rfl rfl ?_
  refine am_aload_n hz1 dX4_isGraded_13 0 rfl rfl ?_
  refine am_getI hz1 fl_X4_9 (oN hG ho) (oK hG ho) rfl dX4_isGraded_14 ?_
  refine am_icmp_ge (tgt := 59) hz1 dX4_isGraded_17 (by decide) (fun c1 => ?_) (fun c1 => ?_)
  · replace h := h.1 c1
    refine am_iinc (v := v1 + 1) (lv' := [(1, .int (v1 + 1)), (0, .ref ((zB z).size + o)), (2, .int v2)]) hz1 dX4_isGraded_59 1 rfl rfl rfl rfl ?_
    refine am_goto (tgt := 2) hz1 dX4_isGraded_62 (by decide) ?_
    exact am_sub (lv' := [(0, .ref ((zB z).size + o)), (1, .int (v1 + 1))]) [1, 0] rfl h
  · replace h := h.2 c1
    refine am_aload_n hz1 dX4_isGraded_20 0 rfl rfl ?_
    refine am_getR hz1 fl_X4_25 (oN hG ho) (oK hG ho) (oR4 hG ho) rfl dX4_isGraded_21 ?_
    refine am_iload_n hz1 dX4_isGraded_24 1 rfl rfl ?_
    obtain ⟨g2, h⟩ := h
    refine am_iald hz1 (oN4 hG ho) (oK4 hG ho) (by rw [(oL4 hG ho)]; exact g2) dX4_isGraded_25 ?_
    refine am_iload_n hz1 dX4_isGraded_26 2 rfl rfl ?_
    refine am_ishr hz1 dX4_isGraded_27 ?_
    refine am_iconst (v := 1) hz1 dX4_isGraded_28 (by decide) ?_
    refine am_iand hz1 dX4_isGraded_29 ?_
    refine am_iconst (v := 1) hz1 dX4_isGraded_30 (by decide) ?_
    refine am_icmp_ne (tgt := 53) hz1 dX4_isGraded_31 (by decide) (fun c3 => ?_) (fun c3 => ?_)
    · replace h := h.1 c3
      refine am_iinc (v := v2 + 1) (lv' := [(2, .int (v2 + 1)), (0, .ref ((zB z).size + o)), (1, .int v1)]) hz1 dX4_isGraded_53 2 rfl rfl rfl rfl ?_
      refine am_goto (tgt := 12) hz1 dX4_isGraded_56 (by decide) ?_
      exact am_sub (lv' := [(0, .ref ((zB z).size + o)), (1, .int v1), (2, .int (v2 + 1))]) [1, 2, 0] rfl h
    · replace h := h.2 c3
      refine am_aload_n hz1 dX4_isGraded_34 0 rfl rfl ?_
      refine am_getR hz1 fl_X4_28 (oN hG ho) (oK hG ho) (oR5 hG ho) rfl dX4_isGraded_35 ?_
      refine am_iload_n hz1 dX4_isGraded_38 2 rfl rfl ?_
      obtain ⟨g4, h⟩ := h
      refine am_iald hz1 (oN5 hG ho) (oK5 hG ho) (by rw [(oL5 hG ho)]; exact g4) dX4_isGraded_39 ?_
      refine am_iconst (v := 1) hz1 dX4_isGraded_40 (by decide) ?_
      refine am_iadd hz1 dX4_isGraded_41 ?_
      refine am_aload_n hz1 dX4_isGraded_42 0 rfl rfl ?_
      refine am_getR hz1 fl_X4_28 (oN hG ho) (oK hG ho) (oR5 hG ho) rfl dX4_isGraded_43 ?_
      refine am_iload_n hz1 dX4_isGraded_46 1 rfl rfl ?_
      obtain ⟨g5, h⟩ := h
      refine am_iald hz1 (oN5 hG ho) (oK5 hG ho) (by rw [(oL5 hG ho)]; exact g5) dX4_isGraded_47 ?_
      refine am_icmp_eq (tgt := 53) hz1 dX4_isGraded_48 (by decide) (fun c6 => ?_) (fun c6 => ?_)
      · replace h := h.1 c6
        refine am_iinc (v := v2 + 1) (lv' := [(2, .int (v2 + 1)), (0, .ref ((zB z).size + o)), (1, .int v1)]) hz1 dX4_isGraded_53 2 rfl rfl rfl rfl ?_
        refine am_goto (tgt := 12) hz1 dX4_isGraded_56 (by decide) ?_
        exact am_sub (lv' := [(0, .ref ((zB z).size + o)), (1, .int v1), (2, .int (v2 + 1))]) [1, 2, 0] rfl h
      · replace h := h.2 c6
        refine am_iconst (v := 0) hz1 dX4_isGraded_51 (by decide) ?_
        exact am_zreturn hz (by decide) dX4_isGraded_52 h
set_option maxRecDepth 100000 in
set_option maxHeartbeats 4000000 in
theorem c_X4_isGraded {l : Launch} {D : va_G} {B : Heap} {G : amG} {I : amI} {L : amL} {o : Nat} (hG : Lay G) (ho : isO o)  (hs : szOk I o) : Fx l D B yX4_isGraded cX4_isGraded 3 (some .boolean) 0 [.ref (B.size + o)] G I L (some (.int (bI (q_graded I o)))) I L := by
  refine Mx.of (by decide) rfl rfl (fun z e1 e2 e3 hz => ?_)
  subst e1; subst e2; subst e3
  refine b_X4_isGraded_0 hz hG ho ?_
  obtain ⟨n, hn1, h16, hn⟩ := id hs
  refine for_up (P := fun i => scan (q_gr1 I o) (fun _ => false) true (n - i) i = q_graded I o → Wx z 0 0 2 [(0, .ref ((zB z).size + o)), (1, .int (nI i))] [] G I L) (n := n) ?_ ?_ (Nat.zero_le n) (by rw [q_graded, sz_eq hn h16, Nat.sub_zero])
  · intro e
    rw [scan_0] at e
    exact b_X4_isGraded_2 hz hG ho ⟨fun _ => ⟨by rw [← e]; rfl, rfl, rfl, rfl⟩, fun h => absurd (sz_le hn h16) h⟩
  · intro i hi ih e
    rw [scan_s hi] at e
    refine b_X4_isGraded_2 hz hG ho ⟨fun h => absurd h (sz_ge hn h16 hi), fun _ => ?_⟩
    refine for_up (P := fun j => scan (p_gr I o i) (fun _ => true) false (n - j) j = q_gr1 I o i → Wx z 0 0 12 [(0, .ref ((zB z).size + o)), (1, .int (nI i)), (2, .int (nI j))] [] G I L) (n := n) ?_ ?_ (Nat.zero_le n) (by rw [q_gr1, sz_eq hn h16, Nat.sub_zero])
    · intro e2
      rw [scan_0] at e2
      rw [if_neg (by simp [← e2])] at e
      refine b_X4_isGraded_12 hz hG ho ⟨fun _ => ?_, fun h => absurd (sz_le hn h16) h⟩
      rw [nI_1]
      exact ih e
    · intro j hj jh e2
      rw [scan_s hj] at e2
      refine b_X4_isGraded_12 hz hG ho ⟨fun h => absurd h (sz_ge hn h16 hj), fun _ => ⟨in16 h16 hi, fun h => ?_, fun h => ⟨in16 h16 hj, in16 h16 hi, fun h3 => ?_, fun h3 => ?_⟩⟩⟩
      · rw [cl_nI (by omega)] at h
        rw [if_neg (by simp [p_gr, (b_bit0 _ j (by omega)).mp h])] at e2
        rw [nI_1]
        exact jh e2
      · rw [cl_nI (by omega), cl_nI (by omega)] at h3
        rw [if_neg (by simp [p_gr, h3])] at e2
        rw [nI_1]
        exact jh e2
      · rw [cl_nI (by omega)] at h
        rw [cl_nI (by omega), cl_nI (by omega)] at h3
        rw [if_pos (by simp [p_gr, (b_bit _ j (by omega)).mp h, h3])] at e2
        rw [if_pos e2.symm] at e
        exact ⟨by rw [← e]; rfl, rfl, rfl, rfl⟩
set_option maxRecDepth 100000 in
set_option maxHeartbeats 4000000 in
theorem b_X4_sumOf_0 {z : amZ} {post : amP} {G : amG} {I : amI} {L : amL} (hz : Go z cX4_sumOf RX4 6 (some .long) 0 0 0 post) (hG : Lay G) {o : Nat} (ho : isO o) {p1 : Nat} (hn_p1 : p1 < gN G) (hk_p1 : gK G p1 = 52) (hl_p1 : gL G p1 = 16) {v2 : Int32} (h : Wx z 0 0 5 [(0, .ref ((zB z).size + o)), (1, .ref ((zB z).size + p1)), (2, .int v2), (3, .long (0 : Int64)), (5, .int 0)] [] G I L) : Wx z 0 0 0 [(0, .ref ((zB z).size + o)), (1, .ref ((zB z).size + p1)), (2, .int v2)] [] G I L := by
  have hz1 := hz.1
  refine am_lconst (v := 0) hz1 dX4_sumOf_0 (by decide) ?_
  refine am_lstore_n (lv' := [(3, .long (0 : Int64)), (0, .ref ((zB z).size + o)), (1, .ref ((zB z).size + p1)), (2, .int v2)]) hz1 dX4_sumOf_1 rfl rfl rfl ?_
  refine am_iconst (v := 0) hz1 dX4_sumOf_2 (by decide) ?_
  refine am_istore (lv' := [(5, .int 0), (3, .long (0 : Int64)), (0, .ref ((zB z).size + o)), (1, .ref ((zB z).size + p1)), (2, .int v2)]) hz1 dX4_sumOf_3 rfl rfl ?_
  exact am_sub (lv' := [(0, .ref ((zB z).size + o)), (1, .ref ((zB z).size + p1)), (2, .int v2), (3, .long (0 : Int64)), (5, .int 0)]) [2, 3, 4, 1, 0] rfl h
set_option maxRecDepth 100000 in
set_option maxHeartbeats 4000000 in
theorem b_X4_sumOf_5 {z : amZ} {post : amP} {G : amG} {I : amI} {L : amL} (hz : Go z cX4_sumOf RX4 6 (some .long) 0 0 0 post) (hG : Lay G) {o : Nat} (ho : isO o) {p1 : Nat} (hn_p1 : p1 < gN G) (hk_p1 : gK G p1 = 52) (hl_p1 : gL G p1 = 16) {v2 : Int32} {v3 : Int64} {v5 : Int32} (h : (((I o 0) ≤ v5) → post (some (.long v3)) G I L) ∧ ((¬ (I o 0) ≤ v5) → (((Int32.ofNat 16) ≤ v5) → post (some (.long v3)) G I L) ∧ ((¬ (Int32.ofNat 16) ≤ v5) → ((¬ ((v2 >>> (v5 &&& 31)) &&& (1 : Int32)) = (1 : Int32)) → Wx z 0 0 5 [(0, .ref ((zB z).size + o)), (1, .ref ((zB z).size + p1)), (2, .int v2), (3, .long v3), (5, .int (v5 + 1))] [] G I L) ∧ ((((v2 >>> (v5 &&& 31)) &&& (1 : Int32)) = (1 : Int32)) → vp_in v5 16 ∧ Wx z 0 0 5 [(0, .ref ((zB z).size + o)), (1, .ref ((zB z).size + p1)), (2, .int v2), (3, .long (v3 + (L p1 v5.toNatClampNeg))), (5, .int (v5 + 1))] [] G I L)))) : Wx z 0 0 5 [(0, .ref ((zB z).size + o)), (1, .ref ((zB z).size + p1)), (2, .int v2), (3, .long v3), (5, .int v5)] [] G I L := by
  have hz1 := hz.1
  refine am_iload hz1 dX4_sumOf_5 4 rfl ?_
  refine am_aload_n hz1 dX4_sumOf_7 0 rfl rfl ?_
  refine am_getI hz1 fl_X4_9 (oN hG ho) (oK hG ho) rfl dX4_sumOf_8 ?_
  refine am_icmp_ge (tgt := 44) hz1 dX4_sumOf_11 (by decide) (fun c1 => ?_) (fun c1 => ?_)
  · replace h := h.1 c1
    refine am_lload_n hz1 dX4_sumOf_44 3 rfl rfl ?_
    exact am_lreturn hz dX4_sumOf_45 h
  · replace h := h.2 c1
    refine am_iload hz1 dX4_sumOf_14 4 rfl ?_
    refine am_aload_n hz1 dX4_sumOf_16 1 rfl rfl ?_
    refine am_alenL hz1 hn_p1 hk_p1 dX4_sumOf_17 ?_
    rw [hl_p1]
    refine am_icmp_ge (tgt := 44) hz1 dX4_sumOf_18 (by decide) (fun c2 => ?_) (fun c2 => ?_)
    · replace h := h.1 c2
      refine am_lload_n hz1 dX4_sumOf_44 3 rfl rfl ?_
      exact am_lreturn hz dX4_sumOf_45 h
    · replace h := h.2 c2
      refine am_iload_n hz1 dX4_sumOf_21 2 rfl rfl ?_
      refine am_iload hz1 dX4_sumOf_22 4 rfl ?_
      refine am_ishr hz1 dX4_sumOf_24 ?_
      refine am_iconst (v := 1) hz1 dX4_sumOf_25 (by decide) ?_
      refine am_iand hz1 dX4_sumOf_26 ?_
      refine am_iconst (v := 1) hz1 dX4_sumOf_27 (by decide) ?_
      refine am_icmp_ne (tgt := 38) hz1 dX4_sumOf_28 (by decide) (fun c3 => ?_) (fun c3 => ?_)
      · replace h := h.1 c3
        refine am_iinc (v := v5 + 1) (lv' := [(5, .int (v5 + 1)), (0, .ref ((zB z).size + o)), (1, .ref ((zB z).size + p1)), (2, .int v2), (3, .long v3)]) hz1 dX4_sumOf_38 4 rfl rfl rfl rfl ?_
        refine am_goto (tgt := 5) hz1 dX4_sumOf_41 (by decide) ?_
        exact am_sub (lv' := [(0, .ref ((zB z).size + o)), (1, .ref ((zB z).size + p1)), (2, .int v2), (3, .long v3), (5, .int (v5 + 1))]) [1, 2, 3, 4, 0] rfl h
      · replace h := h.2 c3
        refine am_lload_n hz1 dX4_sumOf_31 3 rfl rfl ?_
        refine am_aload_n hz1 dX4_sumOf_32 1 rfl rfl ?_
        refine am_iload hz1 dX4_sumOf_33 4 rfl ?_
        obtain ⟨g4, h⟩ := h
        refine am_lald hz1 hn_p1 hk_p1 (by rw [hl_p1]; exact g4) dX4_sumOf_35 ?_
        refine am_ladd hz1 dX4_sumOf_36 ?_
        refine am_lstore_n (lv' := [(3, .long (v3 + (L p1 v5.toNatClampNeg))), (0, .ref ((zB z).size + o)), (1, .ref ((zB z).size + p1)), (2, .int v2), (5, .int v5)]) hz1 dX4_sumOf_37 rfl rfl rfl ?_
        refine am_iinc (v := v5 + 1) (lv' := [(5, .int (v5 + 1)), (3, .long (v3 + (L p1 v5.toNatClampNeg))), (0, .ref ((zB z).size + o)), (1, .ref ((zB z).size + p1)), (2, .int v2)]) hz1 dX4_sumOf_38 4 rfl rfl rfl rfl ?_
        refine am_goto (tgt := 5) hz1 dX4_sumOf_41 (by decide) ?_
        exact am_sub (lv' := [(0, .ref ((zB z).size + o)), (1, .ref ((zB z).size + p1)), (2, .int v2), (3, .long (v3 + (L p1 v5.toNatClampNeg))), (5, .int (v5 + 1))]) [2, 3, 4, 1, 0] rfl h
set_option maxRecDepth 100000 in
set_option maxHeartbeats 4000000 in
theorem c_X4_sumOf {l : Launch} {D : va_G} {B : Heap} {G : amG} {I : amI} {L : amL} {o : Nat} {p1 : Nat} (hG : Lay G) (ho : isO o) (hn_p1 : p1 < gN G) (hk_p1 : gK G p1 = 52) (hl_p1 : gL G p1 = 16) (v2 : Int32) (hs : szOk I o) : Fx l D B yX4_sumOf cX4_sumOf 6 (some .long) 0 [.ref (B.size + o), .ref (B.size + p1), .int v2] G I L (some (.long (q_sumOf I L o p1 v2))) I L := by
  refine Mx.of (by decide) rfl rfl (fun z e1 e2 e3 hz => ?_)
  subst e1; subst e2; subst e3
  refine b_X4_sumOf_0 hz hG ho hn_p1 hk_p1 hl_p1 ?_
  obtain ⟨n, hn1, h16, hn⟩ := id hs
  refine for_up (P := fun i => Wx z 0 0 5 [(0, .ref ((zB z).size + o)), (1, .ref ((zB z).size + p1)), (2, .int v2), (3, .long (sumS (L p1) v2 i)), (5, .int (nI i))] [] G I L) (n := n) ?_ ?_ (Nat.zero_le n)
  · exact b_X4_sumOf_5 hz hG ho hn_p1 hk_p1 hl_p1 ⟨fun _ => ⟨by rw [q_sumOf, sz_eq hn h16], rfl, rfl, rfl⟩, fun h => absurd (sz_le hn h16) h⟩
  · intro i hi ih
    refine b_X4_sumOf_5 hz hG ho hn_p1 hk_p1 hl_p1 ⟨fun h => absurd h (sz_ge hn h16 hi), fun _ => ⟨fun h => absurd h (no16 h16 hi), fun _ => ⟨fun h => ?_, fun h => ⟨in16 h16 hi, ?_⟩⟩⟩⟩
    · rw [sumS, if_neg (by rw [(b_bit0 v2 i (by omega)).mp h]; decide)] at ih
      rw [nI_1]
      exact ih
    · rw [sumS, if_pos ((b_bit v2 i (by omega)).mp h)] at ih
      rw [nI_1, cl_nI (by omega)]
      exact ih
set_option maxRecDepth 100000 in
set_option maxHeartbeats 4000000 in
theorem b_X4_isTold_0 {z : amZ} {post : amP} {G : amG} {I : amI} {L : amL} (hz : Go z cX4_isTold RX4 4 (some .boolean) 0 0 0 post) (hG : Lay G) {o : Nat} (ho : isO o) {p2 : Nat} (hn_p2 : p2 < gN G) (hk_p2 : gK G p2 = 50) (hl_p2 : gL G p2 = 16) {v1 : Int32} (h : (((I o 0) = v1) → Wx z 0 0 12 [(0, .ref ((zB z).size + o)), (2, .ref ((zB z).size + p2)), (3, .int 0)] [] G I L) ∧ ((¬ (I o 0) = v1) → post (some (.int 0)) G I L)) : Wx z 0 0 0 [(0, .ref ((zB z).size + o)), (1, .int v1), (2, .ref ((zB z).size + p2))] [] G I L := by
  have hz1 := hz.1
  refine am_aload_n hz1 dX4_isTold_0 0 rfl rfl ?_
  refine am_getI hz1 fl_X4_9 (oN hG ho) (oK hG ho) rfl dX4_isTold_1 ?_
  refine am_iload_n hz1 dX4_isTold_4 1 rfl rfl ?_
  refine am_icmp_eq (tgt := 10) hz1 dX4_isTold_5 (by decide) (fun c1 => ?_) (fun c1 => ?_)
  · replace h := h.1 c1
    refine am_iconst (v := 0) hz1 dX4_isTold_10 (by decide) ?_
    refine am_istore_n (lv' := [(3, .int 0), (0, .ref ((zB z).size + o)), (1, .int v1), (2, .ref ((zB z).size + p2))]) hz1 dX4_isTold_11 rfl rfl rfl ?_
    exact am_sub (lv' := [(0, .ref ((zB z).size + o)), (2, .ref ((zB z).size + p2)), (3, .int 0)]) [1, 3, 0] rfl h
  · replace h := h.2 c1
    refine am_iconst (v := 0) hz1 dX4_isTold_8 (by decide) ?_
    exact am_zreturn hz (by decide) dX4_isTold_9 h
set_option maxRecDepth 100000 in
set_option maxHeartbeats 4000000 in
theorem b_X4_isTold_12 {z : amZ} {post : amP} {G : amG} {I : amI} {L : amL} (hz : Go z cX4_isTold RX4 4 (some .boolean) 0 0 0 post) (hG : Lay G) {o : Nat} (ho : isO o) {p2 : Nat} (hn_p2 : p2 < gN G) (hk_p2 : gK G p2 = 50) (hl_p2 : gL G p2 = 16) {v3 : Int32} (h : (((I o 0) ≤ v3) → post (some (.int 1)) G I L) ∧ ((¬ (I o 0) ≤ v3) → (((Int32.ofNat 16) ≤ v3) → post (some (.int 1)) G I L) ∧ ((¬ (Int32.ofNat 16) ≤ v3) → vp_in v3 16 ∧ vp_in v3 16 ∧ (((I (o + 1) v3.toNatClampNeg) = (I p2 v3.toNatClampNeg)) → Wx z 0 0 12 [(0, .ref ((zB z).size + o)), (2, .ref ((zB z).size + p2)), (3, .int (v3 + 1))] [] G I L) ∧ ((¬ (I (o + 1) v3.toNatClampNeg) = (I p2 v3.toNatClampNeg)) → post (some (.int 0)) G I L)))) : Wx z 0 0 12 [(0, .ref ((zB z).size + o)), (2, .ref ((zB z).size + p2)), (3, .int v3)] [] G I L := by
  have hz1 := hz.1
  refine am_iload_n hz1 dX4_isTold_12 2 rfl rfl ?_
  refine am_aload_n hz1 dX4_isTold_13 0 rfl rfl ?_
  refine am_getI hz1 fl_X4_9 (oN hG ho) (oK hG ho) rfl dX4_isTold_14 ?_
  refine am_icmp_ge (tgt := 46) hz1 dX4_isTold_17 (by decide) (fun c1 => ?_) (fun c1 => ?_)
  · replace h := h.1 c1
    refine am_iconst (v := 1) hz1 dX4_isTold_46 (by decide) ?_
    exact am_zreturn hz (by decide) dX4_isTold_47 h
  · replace h := h.2 c1
    refine am_iload_n hz1 dX4_isTold_20 2 rfl rfl ?_
    refine am_aload_n hz1 dX4_isTold_21 1 rfl rfl ?_
    refine am_alenI hz1 hn_p2 hk_p2 dX4_isTold_22 ?_
    rw [hl_p2]
    refine am_icmp_ge (tgt := 46) hz1 dX4_isTold_23 (by decide) (fun c2 => ?_) (fun c2 => ?_)
    · replace h := h.1 c2
      refine am_iconst (v := 1) hz1 dX4_isTold_46 (by decide) ?_
      exact am_zreturn hz (by decide) dX4_isTold_47 h
    · replace h := h.2 c2
      refine am_aload_n hz1 dX4_isTold_26 0 rfl rfl ?_
      refine am_getR hz1 fl_X4_15 (oN hG ho) (oK hG ho) (oR1 hG ho) rfl dX4_isTold_27 ?_
      refine am_iload_n hz1 dX4_isTold_30 2 rfl rfl ?_
      obtain ⟨g3, h⟩ := h
      refine am_iald hz1 (oN1 hG ho) (oK1 hG ho) (by rw [(oL1 hG ho)]; exact g3) dX4_isTold_31 ?_
      refine am_aload_n hz1 dX4_isTold_32 1 rfl rfl ?_
      refine am_iload_n hz1 dX4_isTold_33 2 rfl rfl ?_
      obtain ⟨g4, h⟩ := h
      refine am_iald hz1 hn_p2 hk_p2 (by rw [hl_p2]; exact g4) dX4_isTold_34 ?_
      refine am_icmp_eq (tgt := 40) hz1 dX4_isTold_35 (by decide) (fun c5 => ?_) (fun c5 => ?_)
      · replace h := h.1 c5
        refine am_iinc (v := v3 + 1) (lv' := [(3, .int (v3 + 1)), (0, .ref ((zB z).size + o)), (2, .ref ((zB z).size + p2))]) hz1 dX4_isTold_40 2 rfl rfl rfl rfl ?_
        refine am_goto (tgt := 12) hz1 dX4_isTold_43 (by decide) ?_
        exact am_sub (lv' := [(0, .ref ((zB z).size + o)), (2, .ref ((zB z).size + p2)), (3, .int (v3 + 1))]) [1, 2, 0] rfl h
      · replace h := h.2 c5
        refine am_iconst (v := 0) hz1 dX4_isTold_38 (by decide) ?_
        exact am_zreturn hz (by decide) dX4_isTold_39 h
set_option maxRecDepth 100000 in
set_option maxHeartbeats 4000000 in
theorem c_X4_isTold {l : Launch} {D : va_G} {B : Heap} {G : amG} {I : amI} {L : amL} {o : Nat} {p2 : Nat} (hG : Lay G) (ho : isO o) (hn_p2 : p2 < gN G) (hk_p2 : gK G p2 = 50) (hl_p2 : gL G p2 = 16) (v1 : Int32) (hs : szOk I o) : Fx l D B yX4_isTold cX4_isTold 4 (some .boolean) 0 [.ref (B.size + o), .int v1, .ref (B.size + p2)] G I L (some (.int (bI (q_isTold I o v1 p2)))) I L := by
  refine Mx.of (by decide) rfl rfl (fun z e1 e2 e3 hz => ?_)
  subst e1; subst e2; subst e3
  refine b_X4_isTold_0 hz hG ho hn_p2 hk_p2 hl_p2 ?_
  obtain ⟨n, hn1, h16, hn⟩ := id hs
  refine ⟨fun h0 => ?_, fun h0 => ⟨by simp [q_isTold, h0, bI], rfl, rfl, rfl⟩⟩
  refine for_up (P := fun i => scan (fun x => decide (¬ I (o + 1) x = I p2 x)) (fun _ => false) true (n - i) i = q_isTold I o v1 p2 → Wx z 0 0 12 [(0, .ref ((zB z).size + o)), (2, .ref ((zB z).size + p2)), (3, .int (nI i))] [] G I L) (n := n) ?_ ?_ (Nat.zero_le n) (by rw [q_isTold, sz_eq hn h16, Nat.sub_zero, h0]; simp)
  · intro e
    rw [scan_0] at e
    exact b_X4_isTold_12 hz hG ho hn_p2 hk_p2 hl_p2 ⟨fun _ => ⟨by rw [← e]; rfl, rfl, rfl, rfl⟩, fun h => absurd (sz_le hn h16) h⟩
  · intro i hi ih e
    rw [scan_s hi] at e
    refine b_X4_isTold_12 hz hG ho hn_p2 hk_p2 hl_p2 ⟨fun h => absurd h (sz_ge hn h16 hi), fun _ => ⟨fun h => absurd h (no16 h16 hi), fun _ => ⟨in16 h16 hi, in16 h16 hi, fun h => ?_, fun h => ?_⟩⟩⟩
    · rw [cl_nI (by omega)] at h
      rw [if_neg (by simp [h])] at e
      rw [nI_1]
      exact ih e
    · rw [cl_nI (by omega)] at h
      rw [if_pos (by simp [h])] at e
      exact ⟨by rw [← e]; rfl, rfl, rfl, rfl⟩
set_option maxRecDepth 100000 in
set_option maxHeartbeats 4000000 in
theorem b_X4_packed_0 {z : amZ} {post : amP} {G : amG} {I : amI} {L : amL} (hz : Go z cX4_packed RX4 6 (some .int) 0 0 0 post) (hG : Lay G) {v0 : Int32} {v1 : Int32} {v2 : Int32} (h : Wx z 0 0 8 [(0, .int v0), (1, .int v1), (2, .int v2), (3, .int 0), (4, .int 0), (5, .int 0)] [] G I L) : Wx z 0 0 0 [(0, .int v0), (1, .int v1), (2, .int v2)] [] G I L := by
  have hz1 := hz.1
  refine am_iconst (v := 0) hz1 dX4_packed_0 (by decide) ?_
  refine am_istore_n (lv' := [(3, .int 0), (0, .int v0), (1, .int v1), (2, .int v2)]) hz1 dX4_packed_1 rfl rfl rfl ?_
  refine am_iconst (v := 0) hz1 dX4_packed_2 (by decide) ?_
  refine am_istore (lv' := [(4, .int 0), (3, .int 0), (0, .int v0), (1, .int v1), (2, .int v2)]) hz1 dX4_packed_3 rfl rfl ?_
  refine am_iconst (v := 0) hz1 dX4_packed_5 (by decide) ?_
  refine am_istore (lv' := [(5, .int 0), (4, .int 0), (3, .int 0), (0, .int v0), (1, .int v1), (2, .int v2)]) hz1 dX4_packed_6 rfl rfl ?_
  exact am_sub (lv' := [(0, .int v0), (1, .int v1), (2, .int v2), (3, .int 0), (4, .int 0), (5, .int 0)]) [3, 4, 5, 2, 1, 0] rfl h
set_option maxRecDepth 100000 in
set_option maxHeartbeats 4000000 in
theorem b_X4_packed_8 {z : amZ} {post : amP} {G : amG} {I : amI} {L : amL} (hz : Go z cX4_packed RX4 6 (some .int) 0 0 0 post) (hG : Lay G) {v0 : Int32} {v1 : Int32} {v2 : Int32} {v3 : Int32} {v4 : Int32} {v5 : Int32} (h : ((v2 ≤ v5) → post (some (.int v3)) G I L) ∧ ((¬ v2 ≤ v5) → ((¬ ((v1 >>> (v5 &&& 31)) &&& (1 : Int32)) = (1 : Int32)) → Wx z 0 0 8 [(0, .int v0), (1, .int v1), (2, .int v2), (3, .int v3), (4, .int v4), (5, .int (v5 + 1))] [] G I L) ∧ ((((v1 >>> (v5 &&& 31)) &&& (1 : Int32)) = (1 : Int32)) → Wx z 0 0 8 [(0, .int v0), (1, .int v1), (2, .int v2), (3, .int (v3 ||| (((v0 >>> (v5 &&& 31)) &&& (1 : Int32)) <<< (v4 &&& 31)))), (4, .int (v4 + 1)), (5, .int (v5 + 1))] [] G I L))) : Wx z 0 0 8 [(0, .int v0), (1, .int v1), (2, .int v2), (3, .int v3), (4, .int v4), (5, .int v5)] [] G I L := by
  have hz1 := hz.1
  refine am_iload hz1 dX4_packed_8 5 rfl ?_
  refine am_iload_n hz1 dX4_packed_10 2 rfl rfl ?_
  refine am_icmp_ge (tgt := 45) hz1 dX4_packed_11 (by decide) (fun c1 => ?_) (fun c1 => ?_)
  · replace h := h.1 c1
    refine am_iload_n hz1 dX4_packed_45 3 rfl rfl ?_
    exact am_ireturn hz dX4_packed_46 h
  · replace h := h.2 c1
    refine am_iload_n hz1 dX4_packed_14 1 rfl rfl ?_
    refine am_iload hz1 dX4_packed_15 5 rfl ?_
    refine am_ishr hz1 dX4_packed_17 ?_
    refine am_iconst (v := 1) hz1 dX4_packed_18 (by decide) ?_
    refine am_iand hz1 dX4_packed_19 ?_
    refine am_iconst (v := 1) hz1 dX4_packed_20 (by decide) ?_
    refine am_icmp_ne (tgt := 39) hz1 dX4_packed_21 (by decide) (fun c2 => ?_) (fun c2 => ?_)
    · replace h := h.1 c2
      refine am_iinc (v := v5 + 1) (lv' := [(5, .int (v5 + 1)), (0, .int v0), (1, .int v1), (2, .int v2), (3, .int v3), (4, .int v4)]) hz1 dX4_packed_39 5 rfl rfl rfl rfl ?_
      refine am_goto (tgt := 8) hz1 dX4_packed_42 (by decide) ?_
      exact am_sub (lv' := [(0, .int v0), (1, .int v1), (2, .int v2), (3, .int v3), (4, .int v4), (5, .int (v5 + 1))]) [1, 2, 3, 4, 5, 0] rfl h
    · replace h := h.2 c2
      refine am_iload_n hz1 dX4_packed_24 3 rfl rfl ?_
      refine am_iload_n hz1 dX4_packed_25 0 rfl rfl ?_
      refine am_iload hz1 dX4_packed_26 5 rfl ?_
      refine am_ishr hz1 dX4_packed_28 ?_
      refine am_iconst (v := 1) hz1 dX4_packed_29 (by decide) ?_
      refine am_iand hz1 dX4_packed_30 ?_
      refine am_iload hz1 dX4_packed_31 4 rfl ?_
      refine am_ishl hz1 dX4_packed_33 ?_
      refine am_ior hz1 dX4_packed_34 ?_
      refine am_istore_n (lv' := [(3, .int (v3 ||| (((v0 >>> (v5 &&& 31)) &&& (1 : Int32)) <<< (v4 &&& 31)))), (0, .int v0), (1, .int v1), (2, .int v2), (4, .int v4), (5, .int v5)]) hz1 dX4_packed_35 rfl rfl rfl ?_
      refine am_iinc (v := v4 + 1) (lv' := [(4, .int (v4 + 1)), (3, .int (v3 ||| (((v0 >>> (v5 &&& 31)) &&& (1 : Int32)) <<< (v4 &&& 31)))), (0, .int v0), (1, .int v1), (2, .int v2), (5, .int v5)]) hz1 dX4_packed_36 4 rfl rfl rfl rfl ?_
      refine am_iinc (v := v5 + 1) (lv' := [(5, .int (v5 + 1)), (4, .int (v4 + 1)), (3, .int (v3 ||| (((v0 >>> (v5 &&& 31)) &&& (1 : Int32)) <<< (v4 &&& 31)))), (0, .int v0), (1, .int v1), (2, .int v2)]) hz1 dX4_packed_39 5 rfl rfl rfl rfl ?_
      refine am_goto (tgt := 8) hz1 dX4_packed_42 (by decide) ?_
      exact am_sub (lv' := [(0, .int v0), (1, .int v1), (2, .int v2), (3, .int (v3 ||| (((v0 >>> (v5 &&& 31)) &&& (1 : Int32)) <<< (v4 &&& 31)))), (4, .int (v4 + 1)), (5, .int (v5 + 1))]) [3, 4, 5, 2, 1, 0] rfl h
set_option maxRecDepth 100000 in
set_option maxHeartbeats 4000000 in
theorem c_X4_packed {l : Launch} {D : va_G} {B : Heap} {G : amG} {I : amI} {L : amL}  (hG : Lay G)  (v0 : Int32) (v1 : Int32) (v2 : Int32) (hw : w16 v2) : Fx l D B yX4_packed cX4_packed 6 (some .int) 0 [.int v0, .int v1, .int v2] G I L (some (.int (q_packed v0 v1 v2))) I L := by
  refine Mx.of (by decide) rfl rfl (fun z e1 e2 e3 hz => ?_)
  subst e1; subst e2; subst e3
  refine b_X4_packed_0 hz hG ?_
  obtain ⟨n, h16, rfl⟩ := hw
  refine for_up (P := fun i => Wx z 0 0 8 [(0, .int v0), (1, .int v1), (2, .int (nI n)), (3, .int (pkv v0 v1 i)), (4, .int (nI (pkc v1 i))), (5, .int (nI i))] [] G I L) (n := n) ?_ ?_ (Nat.zero_le n)
  · exact b_X4_packed_8 hz hG ⟨fun _ => ⟨by rw [q_packed, cl_nI (by omega)], rfl, rfl, rfl⟩, fun h => absurd (nI_le (Nat.le_refl _) (by omega)) h⟩
  · intro i hi ih
    refine b_X4_packed_8 hz hG ⟨fun h => absurd h (nI_ge hi (by omega)), fun _ => ⟨fun h => ?_, fun h => ?_⟩⟩
    · rw [pkv, pkc, if_neg (by rw [(b_bit0 v1 i (by omega)).mp h]; decide), if_neg (by rw [(b_bit0 v1 i (by omega)).mp h]; decide)] at ih
      rw [nI_1]
      exact ih
    · rw [pkv, pkc, if_pos ((b_bit v1 i (by omega)).mp h), if_pos ((b_bit v1 i (by omega)).mp h)] at ih
      rw [nI_1, nI_1]
      exact ih
