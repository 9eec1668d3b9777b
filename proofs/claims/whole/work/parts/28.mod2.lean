/-! THE REFERENCE: rows filled -/
def wr {α : Type} (f : Nat → α) (b n : Nat) (v : Nat → α) : Nat → α := fun j => if b ≤ j ∧ j < b + n then v (j - b) else f j
theorem wr_0 {α : Type} {f : Nat → α} {b : Nat} {v : Nat → α} : wr f b 0 v = f := by
  funext j
  exact if_neg (by omega)
theorem wr_in {α : Type} {f : Nat → α} {b n j : Nat} {v : Nat → α} (h : b ≤ j ∧ j < b + n) : wr f b n v j = v (j - b) := if_pos h
theorem wr_out {α : Type} {f : Nat → α} {b n j : Nat} {v : Nat → α} (h : ¬ (b ≤ j ∧ j < b + n)) : wr f b n v j = f j := if_neg h
theorem wr_sL {f : Nat → Int64} {b i : Nat} {v : Nat → Int64} {x : Int64} (hx : x = v i) : vp_updL (wr f b i v) (b + i) x = wr f b (i + 1) v := by
  funext j
  unfold vp_updL wr
  by_cases h : j = b + i
  · subst h
    rw [if_pos rfl, if_pos (by omega), hx, Nat.add_sub_cancel_left]
  · rw [if_neg h]
    by_cases h2 : b ≤ j ∧ j < b + i
    · rw [if_pos h2, if_pos (by omega)]
    · rw [if_neg h2, if_neg (by omega)]
theorem wr_sI {f : Nat → Int32} {b i : Nat} {v : Nat → Int32} {x : Int32} (hx : x = v i) : upd (wr f b i v) (b + i) x = wr f b (i + 1) v := by
  funext j
  unfold upd wr
  by_cases h : j = b + i
  · subst h
    rw [if_pos rfl, if_pos (by omega), hx, Nat.add_sub_cancel_left]
  · rw [if_neg h]
    by_cases h2 : b ≤ j ∧ j < b + i
    · rw [if_pos h2, if_pos (by omega)]
    · rw [if_neg h2, if_neg (by omega)]
theorem updL_s {f : Nat → Int64} {k : Nat} {x : Int64} : vp_updL f k x k = x := if_pos rfl
theorem updL_n {f : Nat → Int64} {k j : Nat} {x : Int64} (h : j ≠ k) : vp_updL f k x j = f j := if_neg h
theorem upd_upd {f : Nat → Int32} {k : Nat} {x y : Int32} : upd (upd f k x) k y = upd f k y := by
  funext j
  unfold upd
  by_cases h : j = k
  · rw [if_pos h, if_pos h]
  · rw [if_neg h, if_neg h, if_neg h]
theorem nI_mul (a b : Nat) : nI a * nI b = nI (a * b) := (Int32.ofNat_mul a b).symm
theorem clA {a i : Nat} (h : a + i < 2 ^ 31) : (nI a + nI i).toNatClampNeg = a + i := by rw [nI_add]; exact cl_nI h
theorem inA {a i N : Nat} (h : a + i < N) (hN : N < 2 ^ 31) : vp_in (nI a + nI i) N := by rw [nI_add]; exact in_nI h hN
def m_fgt (f : Nat → Int64) (e : Int32) : Nat → Int64 := vp_updL (wr f 1057 16 (fun _ => -1)) 1073 e.toInt64
def m_clr (f : Nat → Int64) (e : Int32) : Nat → Int64 := m_fgt (wr f 17 1040 (fun _ => 0)) e
set_option maxRecDepth 100000 in
set_option maxHeartbeats 4000000 in
theorem b_X12_clears_0 {z : amZ} {post : amP} {G : amG} {I : amI} {L : amL} (hz : Go z cX12_clears RX12 2 none 0 0 0 post) (hG : Lay G)  (h : Wx z 0 0 8 [(0, .ref ((zB z).size + 64)), (1, .int 17)] [] G (setI I 64 (upd (I 64) 24 (0 : Int32))) L) : Wx z 0 0 0 [(0, .ref ((zB z).size + 64))] [] G I L := by
  have hz1 := hz.1
  refine am_aload_n hz1 dX12_clears_0 0 rfl rfl ?_
  refine am_iconst (v := 0) hz1 dX12_clears_1 (by decide) ?_
  refine am_putI hz1 fl_X12_114 (ln_64 hG) (lk_64 hG) rfl rfl (fun _ => rfl) dX12_clears_2 ?_
  refine am_bipush (v := 17) hz1 dX12_clears_5 (by decide) ?_
  refine am_istore_n (lv' := [(1, .int 17), (0, .ref ((zB z).size + 64))]) hz1 dX12_clears_7 rfl rfl rfl ?_
  exact am_sub (lv' := [(0, .ref ((zB z).size + 64)), (1, .int 17)]) [1, 0] rfl h
set_option maxRecDepth 100000 in
set_option maxHeartbeats 4000000 in
theorem b_X12_clears_8 {z : amZ} {post : amP} {G : amG} {I : amI} {L : amL} (hz : Go z cX12_clears RX12 2 none 0 0 0 post) (hG : Lay G) {v1 : Int32} (h : (((1057 : Int32) ≤ v1) → Wx z 0 0 30 [(0, .ref ((zB z).size + 64)), (1, .int 0)] [] G I L) ∧ ((¬ (1057 : Int32) ≤ v1) → vp_in v1 1074 ∧ Wx z 0 0 8 [(0, .ref ((zB z).size + 64)), (1, .int (v1 + 1))] [] G I (setL L 65 (vp_updL (L 65) v1.toNatClampNeg (0 : Int64))))) : Wx z 0 0 8 [(0, .ref ((zB z).size + 64)), (1, .int v1)] [] G I L := by
  have hz1 := hz.1
  refine am_iload_n hz1 dX12_clears_8 1 rfl rfl ?_
  refine am_sipush (v := 1057) hz1 dX12_clears_9 (by decide) ?_
  refine am_icmp_ge (tgt := 28) hz1 dX12_clears_12 (by decide) (fun c1 => ?_) (fun c1 => ?_)
  · replace h := h.1 c1
    refine am_iconst (v := 0) hz1 dX12_clears_28 (by decide) ?_
    refine am_istore_n (lv' := [(1, .int 0), (0, .ref ((zB z).size + 64))]) hz1 dX12_clears_29 rfl rfl rfl ?_
    exact am_sub (lv' := [(0, .ref ((zB z).size + 64)), (1, .int 0)]) [1, 0] rfl h
  · replace h := h.2 c1
    refine am_aload_n hz1 dX12_clears_15 0 rfl rfl ?_
    refine am_getR hz1 fl_X12_9 (ln_64 hG) (lk_64 hG) (lr_64_0 hG) rfl dX12_clears_16 ?_
    refine am_iload_n hz1 dX12_clears_19 1 rfl rfl ?_
    refine am_lconst (v := 0) hz1 dX12_clears_20 (by decide) ?_
    obtain ⟨g2, h⟩ := h
    refine am_last hz1 (ln_65 hG) (lk_65 hG) (by rw [(ll_65 hG)]; exact g2) dX12_clears_21 ?_
    refine am_iinc (v := v1 + 1) (lv' := [(1, .int (v1 + 1)), (0, .ref ((zB z).size + 64))]) hz1 dX12_clears_22 1 rfl rfl rfl rfl ?_
    refine am_goto (tgt := 8) hz1 dX12_clears_25 (by decide) ?_
    exact am_sub (lv' := [(0, .ref ((zB z).size + 64)), (1, .int (v1 + 1))]) [1, 0] rfl h
set_option maxRecDepth 100000 in
set_option maxHeartbeats 4000000 in
theorem b_X12_clears_30 {z : amZ} {post : amP} {G : amG} {I : amI} {L : amL} (hz : Go z cX12_clears RX12 2 none 0 0 0 post) (hG : Lay G) {v1 : Int32} (h : (((16 : Int32) ≤ v1) → post none G I (setL L 65 (vp_updL (L 65) (1073 : Int32).toNatClampNeg ((I 64 5).toInt64)))) ∧ ((¬ (16 : Int32) ≤ v1) → vp_in ((1057 : Int32) + v1) 1074 ∧ Wx z 0 0 30 [(0, .ref ((zB z).size + 64)), (1, .int (v1 + 1))] [] G I (setL L 65 (vp_updL (L 65) ((1057 : Int32) + v1).toNatClampNeg (-1 : Int64))))) : Wx z 0 0 30 [(0, .ref ((zB z).size + 64)), (1, .int v1)] [] G I L := by
  have hz1 := hz.1
  refine am_iload_n hz1 dX12_clears_30 1 rfl rfl ?_
  refine am_bipush (v := 16) hz1 dX12_clears_31 (by decide) ?_
  refine am_icmp_ge (tgt := 55) hz1 dX12_clears_33 (by decide) (fun c1 => ?_) (fun c1 => ?_)
  · replace h := h.1 c1
    refine am_aload_n hz1 dX12_clears_55 0 rfl rfl ?_
    refine am_getR hz1 fl_X12_9 (ln_64 hG) (lk_64 hG) (lr_64_0 hG) rfl dX12_clears_56 ?_
    refine am_sipush (v := 1073) hz1 dX12_clears_59 (by decide) ?_
    refine am_aload_n hz1 dX12_clears_62 0 rfl rfl ?_
    refine am_getI hz1 fl_X12_120 (ln_64 hG) (lk_64 hG) rfl dX12_clears_63 ?_
    refine am_i2l hz1 dX12_clears_66 ?_
    refine am_last hz1 (ln_65 hG) (lk_65 hG) (by rw [(ll_65 hG)]; exact in_nI (n := 1073) (by decide) (by decide)) dX12_clears_67 ?_
    exact am_return hz dX12_clears_68 h
  · replace h := h.2 c1
    refine am_aload_n hz1 dX12_clears_36 0 rfl rfl ?_
    refine am_getR hz1 fl_X12_9 (ln_64 hG) (lk_64 hG) (lr_64_0 hG) rfl dX12_clears_37 ?_
    refine am_sipush (v := 1057) hz1 dX12_clears_40 (by decide) ?_
    refine am_iload_n hz1 dX12_clears_43 1 rfl rfl ?_
    refine am_iadd hz1 dX12_clears_44 ?_
    refine am_ldc2 hz1 kc_X12_118 dX12_clears_45 ?_
    obtain ⟨g3, h⟩ := h
    refine am_last hz1 (ln_65 hG) (lk_65 hG) (by rw [(ll_65 hG)]; exact g3) dX12_clears_48 ?_
    refine am_iinc (v := v1 + 1) (lv' := [(1, .int (v1 + 1)), (0, .ref ((zB z).size + 64))]) hz1 dX12_clears_49 1 rfl rfl rfl rfl ?_
    refine am_goto (tgt := 30) hz1 dX12_clears_52 (by decide) ?_
    exact am_sub (lv' := [(0, .ref ((zB z).size + 64)), (1, .int (v1 + 1))]) [1, 0] rfl h
set_option maxRecDepth 100000 in
set_option maxHeartbeats 4000000 in
theorem c_X12_clears {l : Launch} {D : va_G} {B : Heap} {G : amG} {I : amI} {L : amL}  (hG : Lay G)    : Fx l D B yX12_clears cX12_clears 2 none 0 [.ref (B.size + 64)] G I L none (setI I 64 (upd (I 64) 24 0)) (setL L 65 (m_clr (L 65) (I 64 5))) := by
  refine Mx.of (by decide) rfl rfl (fun z e1 e2 e3 hz => ?_)
  subst e1; subst e2; subst e3
  refine b_X12_clears_0 hz hG ?_
  have main2 : ∀ f, Wx z 0 0 30 [(0, .ref ((zB z).size + 64)), (1, .int (nI 0))] [] G (setI I 64 (upd (I 64) 24 0)) (setL L 65 f) ↔ Wx z 0 0 30 [(0, .ref ((zB z).size + 64)), (1, .int (nI 0))] [] G (setI I 64 (upd (I 64) 24 0)) (setL L 65 (wr f 1057 0 (fun _ => -1))) := fun f => by rw [wr_0]
  have main := for_up (P := fun i => Wx z 0 0 8 [(0, .ref ((zB z).size + 64)), (1, .int (nI (17 + i)))] [] G (setI I 64 (upd (I 64) 24 0)) (setL L 65 (wr (L 65) 17 i (fun _ => 0)))) (n := 1040) ?_ ?_ (Nat.zero_le _)
  · rw [wr_0, setL_id] at main
    exact main
  · refine b_X12_clears_8 hz hG ⟨fun _ => ?_, fun h => absurd (nI_le (a := 1057) (b := 1057) (Nat.le_refl _) (by decide)) h⟩
    refine (main2 _).mpr ?_
    refine for_up (P := fun i => Wx z 0 0 30 [(0, .ref ((zB z).size + 64)), (1, .int (nI i))] [] G (setI I 64 (upd (I 64) 24 0)) (setL L 65 (wr (wr (L 65) 17 1040 (fun _ => 0)) 1057 i (fun _ => -1)))) (n := 16) ?_ ?_ (Nat.zero_le _)
    · refine b_X12_clears_30 hz hG ⟨fun _ => ⟨rfl, rfl, rfl, ?_⟩, fun h => absurd (nI_le (a := 16) (b := 16) (Nat.le_refl _) (by decide)) h⟩
      rw [setL_ss, setL_s, setI_s, upd_n (by decide)]
      rfl
    · intro i hi ih
      refine b_X12_clears_30 hz hG ⟨fun h => absurd h (nI_ge (b := 16) hi (by decide)), fun _ => ⟨inA (a := 1057) (by omega) (by decide), ?_⟩⟩
      have e : ((1057 : Int32) + nI i).toNatClampNeg = 1057 + i := clA (a := 1057) (by omega)
      rw [setL_ss, setL_s, e, wr_sL rfl, nI_1]
      exact ih
  · intro i hi ih
    refine b_X12_clears_8 hz hG ⟨fun h => absurd h (nI_ge (b := 1057) (by omega) (by decide)), fun _ => ⟨in_nI (by omega) (by decide), ?_⟩⟩
    rw [setL_ss, setL_s, cl_nI (by omega), wr_sL rfl, nI_1]
    exact ih
set_option maxRecDepth 100000 in
set_option maxHeartbeats 4000000 in
theorem b_X12_forgetsMap_0 {z : amZ} {post : amP} {G : amG} {I : amI} {L : amL} (hz : Go z cX12_forgetsMap RX12 2 none 0 0 0 post) (hG : Lay G)  (h : Wx z 0 0 2 [(0, .ref ((zB z).size + 64)), (1, .int 0)] [] G I L) : Wx z 0 0 0 [(0, .ref ((zB z).size + 64))] [] G I L := by
  have hz1 := hz.1
  refine am_iconst (v := 0) hz1 dX12_forgetsMap_0 (by decide) ?_
  refine am_istore_n (lv' := [(1, .int 0), (0, .ref ((zB z).size + 64))]) hz1 dX12_forgetsMap_1 rfl rfl rfl ?_
  exact am_sub (lv' := [(0, .ref ((zB z).size + 64)), (1, .int 0)]) [1, 0] rfl h
set_option maxRecDepth 100000 in
set_option maxHeartbeats 4000000 in
theorem b_X12_forgetsMap_2 {z : amZ} {post : amP} {G : amG} {I : amI} {L : amL} (hz : Go z cX12_forgetsMap RX12 2 none 0 0 0 post) (hG : Lay G) {v1 : Int32} (h : (((16 : Int32) ≤ v1) → post none G I (setL L 65 (vp_updL (L 65) (1073 : Int32).toNatClampNeg ((I 64 5).toInt64)))) ∧ ((¬ (16 : Int32) ≤ v1) → vp_in ((1057 : Int32) + v1) 1074 ∧ Wx z 0 0 2 [(0, .ref ((zB z).size + 64)), (1, .int (v1 + 1))] [] G I (setL L 65 (vp_updL (L 65) ((1057 : Int32) + v1).toNatClampNeg (-1 : Int64))))) : Wx z 0 0 2 [(0, .ref ((zB z).size + 64)), (1, .int v1)] [] G I L := by
  have hz1 := hz.1
  refine am_iload_n hz1 dX12_forgetsMap_2 1 rfl rfl ?_
  refine am_bipush (v := 16) hz1 dX12_forgetsMap_3 (by decide) ?_
  refine am_icmp_ge (tgt := 27) hz1 dX12_forgetsMap_5 (by decide) (fun c1 => ?_) (fun c1 => ?_)
  · replace h := h.1 c1
    refine am_aload_n hz1 dX12_forgetsMap_27 0 rfl rfl ?_
    refine am_getR hz1 fl_X12_9 (ln_64 hG) (lk_64 hG) (lr_64_0 hG) rfl dX12_forgetsMap_28 ?_
    refine am_sipush (v := 1073) hz1 dX12_forgetsMap_31 (by decide) ?_
    refine am_aload_n hz1 dX12_forgetsMap_34 0 rfl rfl ?_
    refine am_getI hz1 fl_X12_120 (ln_64 hG) (lk_64 hG) rfl dX12_forgetsMap_35 ?_
    refine am_i2l hz1 dX12_forgetsMap_38 ?_
    refine am_last hz1 (ln_65 hG) (lk_65 hG) (by rw [(ll_65 hG)]; exact in_nI (n := 1073) (by decide) (by decide)) dX12_forgetsMap_39 ?_
    exact am_return hz dX12_forgetsMap_40 h
  · replace h := h.2 c1
    refine am_aload_n hz1 dX12_forgetsMap_8 0 rfl rfl ?_
    refine am_getR hz1 fl_X12_9 (ln_64 hG) (lk_64 hG) (lr_64_0 hG) rfl dX12_forgetsMap_9 ?_
    refine am_sipush (v := 1057) hz1 dX12_forgetsMap_12 (by decide) ?_
    refine am_iload_n hz1 dX12_forgetsMap_15 1 rfl rfl ?_
    refine am_iadd hz1 dX12_forgetsMap_16 ?_
    refine am_ldc2 hz1 kc_X12_118 dX12_forgetsMap_17 ?_
    obtain ⟨g3, h⟩ := h
    refine am_last hz1 (ln_65 hG) (lk_65 hG) (by rw [(ll_65 hG)]; exact g3) dX12_forgetsMap_20 ?_
    refine am_iinc (v := v1 + 1) (lv' := [(1, .int (v1 + 1)), (0, .ref ((zB z).size + 64))]) hz1 dX12_forgetsMap_21 1 rfl rfl rfl rfl ?_
    refine am_goto (tgt := 2) hz1 dX12_forgetsMap_24 (by decide) ?_
    exact am_sub (lv' := [(0, .ref ((zB z).size + 64)), (1, .int (v1 + 1))]) [1, 0] rfl h
set_option maxRecDepth 100000 in
set_option maxHeartbeats 4000000 in
theorem c_X12_forgetsMap {l : Launch} {D : va_G} {B : Heap} {G : amG} {I : amI} {L : amL}  (hG : Lay G)    : Fx l D B yX12_forgetsMap cX12_forgetsMap 2 none 0 [.ref (B.size + 64)] G I L none I (setL L 65 (m_fgt (L 65) (I 64 5))) := by
  refine Mx.of (by decide) rfl rfl (fun z e1 e2 e3 hz => ?_)
  subst e1; subst e2; subst e3
  refine b_X12_forgetsMap_0 hz hG ?_
  have main := for_up (P := fun i => Wx z 0 0 2 [(0, .ref ((zB z).size + 64)), (1, .int (nI i))] [] G I (setL L 65 (wr (L 65) 1057 i (fun _ => -1)))) (n := 16) ?_ ?_ (Nat.zero_le _)
  · rw [wr_0, setL_id] at main
    exact main
  · refine b_X12_forgetsMap_2 hz hG ⟨fun _ => ⟨rfl, rfl, rfl, ?_⟩, fun h => absurd (nI_le (a := 16) (b := 16) (Nat.le_refl _) (by decide)) h⟩
    rw [setL_ss, setL_s]
    rfl
  · intro i hi ih
    refine b_X12_forgetsMap_2 hz hG ⟨fun h => absurd h (nI_ge (b := 16) hi (by decide)), fun _ => ⟨inA (a := 1057) (by omega) (by decide), ?_⟩⟩
    have e : ((1057 : Int32) + nI i).toNatClampNeg = 1057 + i := clA (a := 1057) (by omega)
    rw [setL_ss, setL_s, e, wr_sL rfl, nI_1]
    exact ih
def muOk (I : amI) : Prop := ∃ u : Nat, u ≤ 8 ∧ I 64 2 = nI u
def kaU (I : amI) : Nat := if I 64 2 = 8 then 7 else (I 64 2).toNatClampNeg
def kaS (I : amI) (f : Nat → Int64) : Nat → Int64 := if I 64 2 = 8 then wr f 0 7518 (fun j => f (j + 1074)) else f
def m_ka (I : amI) (L : amL) : Nat → Int64 := wr (kaS I (L 66)) (1074 * kaU I) 1074 (L 65)
set_option maxRecDepth 100000 in
set_option maxHeartbeats 4000000 in
theorem b_X12_keepsAct_0 {z : amZ} {post : amP} {G : amG} {I : amI} {L : amL} (hz : Go z cX12_keepsAct RX12 2 none 0 0 0 post) (hG : Lay G)  (h : ((¬ (I 64 2) = (8 : Int32)) → Wx z 0 0 54 [(0, .ref ((zB z).size + 64)), (1, .int 0)] [] G I L) ∧ (((I 64 2) = (8 : Int32)) → Wx z 0 0 13 [(0, .ref ((zB z).size + 64)), (1, .int 1074)] [] G I L)) : Wx z 0 0 0 [(0, .ref ((zB z).size + 64))] [] G I L := by
  have hz1 := hz.1
  refine am_aload_n hz1 dX12_keepsAct_0 0 rfl rfl ?_
  refine am_getI hz1 fl_X12_124 (ln_64 hG) (lk_64 hG) rfl dX12_keepsAct_1 ?_
  refine am_bipush (v := 8) hz1 dX12_keepsAct_4 (by decide) ?_
  refine am_icmp_ne (tgt := 52) hz1 dX12_keepsAct_6 (by decide) (fun c1 => ?_) (fun c1 => ?_)
  · replace h := h.1 c1
    refine am_iconst (v := 0) hz1 dX12_keepsAct_52 (by decide) ?_
    refine am_istore_n (lv' := [(1, .int 0), (0, .ref ((zB z).size + 64))]) hz1 dX12_keepsAct_53 rfl rfl rfl ?_
    exact am_sub (lv' := [(0, .ref ((zB z).size + 64)), (1, .int 0)]) [1, 0] rfl h
  · replace h := h.2 c1
    refine am_sipush (v := 1074) hz1 dX12_keepsAct_9 (by decide) ?_
    refine am_istore_n (lv' := [(1, .int 1074), (0, .ref ((zB z).size + 64))]) hz1 dX12_keepsAct_12 rfl rfl rfl ?_
    exact am_sub (lv' := [(0, .ref ((zB z).size + 64)), (1, .int 1074)]) [1, 0] rfl h
set_option maxRecDepth 100000 in
set_option maxHeartbeats 4000000 in
theorem b_X12_keepsAct_54 {z : amZ} {post : amP} {G : amG} {I : amI} {L : amL} (hz : Go z cX12_keepsAct RX12 2 none 0 0 0 post) (hG : Lay G) {v1 : Int32} (h : (((1074 : Int32) ≤ v1) → post none G (setI I 64 (upd (I 64) 2 ((I 64 2) + (1 : Int32)))) L) ∧ ((¬ (1074 : Int32) ≤ v1) → vp_in v1 1074 ∧ vp_in (((1074 : Int32) * (I 64 2)) + v1) 8592 ∧ Wx z 0 0 54 [(0, .ref ((zB z).size + 64)), (1, .int (v1 + 1))] [] G I (setL L 66 (vp_updL (L 66) (((1074 : Int32) * (I 64 2)) + v1).toNatClampNeg (L 65 v1.toNatClampNeg))))) : Wx z 0 0 54 [(0, .ref ((zB z).size + 64)), (1, .int v1)] [] G I L := by
  have hz1 := hz.1
  refine am_iload_n hz1 dX12_keepsAct_54 1 rfl rfl ?_
  refine am_sipush (v := 1074) hz1 dX12_keepsAct_55 (by decide) ?_
  refine am_icmp_ge (tgt := 88) hz1 dX12_keepsAct_58 (by decide) (fun c1 => ?_) (fun c1 => ?_)
  · replace h := h.1 c1
    refine am_aload_n hz1 dX12_keepsAct_88 0 rfl rfl ?_
    refine am_dup hz1 dX12_keepsAct_89 rfl ?_
    refine am_getI hz1 fl_X12_124 (ln_64 hG) (lk_64 hG) rfl dX12_keepsAct_90 ?_
    refine am_iconst (v := 1) hz1 dX12_keepsAct_93 (by decide) ?_
    refine am_iadd hz1 dX12_keepsAct_94 ?_
    refine am_putI hz1 fl_X12_124 (ln_64 hG) (lk_64 hG) rfl rfl (fun _ => rfl) dX12_keepsAct_95 ?_
    exact am_return hz dX12_keepsAct_98 h
  · replace h := h.2 c1
    refine am_aload_n hz1 dX12_keepsAct_61 0 rfl rfl ?_
    refine am_getR hz1 fl_X12_15 (ln_64 hG) (lk_64 hG) (lr_64_1 hG) rfl dX12_keepsAct_62 ?_
    refine am_sipush (v := 1074) hz1 dX12_keepsAct_65 (by decide) ?_
    refine am_aload_n hz1 dX12_keepsAct_68 0 rfl rfl ?_
    refine am_getI hz1 fl_X12_124 (ln_64 hG) (lk_64 hG) rfl dX12_keepsAct_69 ?_
    refine am_imul hz1 dX12_keepsAct_72 ?_
    refine am_iload_n hz1 dX12_keepsAct_73 1 rfl rfl ?_
    refine am_iadd hz1 dX12_keepsAct_74 ?_
    refine am_aload_n hz1 dX12_keepsAct_75 0 rfl rfl ?_
    refine am_getR hz1 fl_X12_9 (ln_64 hG) (lk_64 hG) (lr_64_0 hG) rfl dX12_keepsAct_76 ?_
    refine am_iload_n hz1 dX12_keepsAct_79 1 rfl rfl ?_
    obtain ⟨g2, h⟩ := h
    refine am_lald hz1 (ln_65 hG) (lk_65 hG) (by rw [(ll_65 hG)]; exact g2) dX12_keepsAct_80 ?_
    obtain ⟨g3, h⟩ := h
    refine am_last hz1 (ln_66 hG) (lk_66 hG) (by rw [(ll_66 hG)]; exact g3) dX12_keepsAct_81 ?_
    refine am_iinc (v := v1 + 1) (lv' := [(1, .int (v1 + 1)), (0, .ref ((zB z).size + 64))]) hz1 dX12_keepsAct_82 1 rfl rfl rfl rfl ?_
    refine am_goto (tgt := 54) hz1 dX12_keepsAct_85 (by decide) ?_
    exact am_sub (lv' := [(0, .ref ((zB z).size + 64)), (1, .int (v1 + 1))]) [1, 0] rfl h
set_option maxRecDepth 100000 in
set_option maxHeartbeats 4000000 in
theorem b_X12_keepsAct_13 {z : amZ} {post : amP} {G : amG} {I : amI} {L : amL} (hz : Go z cX12_keepsAct RX12 2 none 0 0 0 post) (hG : Lay G) {v1 : Int32} (h : (((8592 : Int32) ≤ v1) → Wx z 0 0 54 [(0, .ref ((zB z).size + 64)), (1, .int 0)] [] G (setI I 64 (upd (I 64) 2 ((I 64 2) - (1 : Int32)))) L) ∧ ((¬ (8592 : Int32) ≤ v1) → vp_in v1 8592 ∧ vp_in (v1 - (1074 : Int32)) 8592 ∧ Wx z 0 0 13 [(0, .ref ((zB z).size + 64)), (1, .int (v1 + 1))] [] G I (setL L 66 (vp_updL (L 66) (v1 - (1074 : Int32)).toNatClampNeg (L 66 v1.toNatClampNeg))))) : Wx z 0 0 13 [(0, .ref ((zB z).size + 64)), (1, .int v1)] [] G I L := by
  have hz1 := hz.1
  refine am_iload_n hz1 dX12_keepsAct_13 1 rfl rfl ?_
  refine am_sipush (v := 8592) hz1 dX12_keepsAct_14 (by decide) ?_
  refine am_icmp_ge (tgt := 42) hz1 dX12_keepsAct_17 (by decide) (fun c1 => ?_) (fun c1 => ?_)
  · replace h := h.1 c1
    refine am_aload_n hz1 dX12_keepsAct_42 0 rfl rfl ?_
    refine am_dup hz1 dX12_keepsAct_43 rfl ?_
    refine am_getI hz1 fl_X12_124 (ln_64 hG) (lk_64 hG) rfl dX12_keepsAct_44 ?_
    refine am_iconst (v := 1) hz1 dX12_keepsAct_47 (by decide) ?_
    refine am_isub hz1 dX12_keepsAct_48 ?_
    refine am_putI hz1 fl_X12_124 (ln_64 hG) (lk_64 hG) rfl rfl (fun _ => rfl) dX12_keepsAct_49 ?_
    refine am_iconst (v := 0) hz1 dX12_keepsAct_52 (by decide) ?_
    refine am_istore_n (lv' := [(1, .int 0), (0, .ref ((zB z).size + 64))]) hz1 dX12_keepsAct_53 rfl rfl rfl ?_
    exact am_sub (lv' := [(0, .ref ((zB z).size + 64)), (1, .int 0)]) [1, 0] rfl h
  · replace h := h.2 c1
    refine am_aload_n hz1 dX12_keepsAct_20 0 rfl rfl ?_
    refine am_getR hz1 fl_X12_15 (ln_64 hG) (lk_64 hG) (lr_64_1 hG) rfl dX12_keepsAct_21 ?_
    refine am_iload_n hz1 dX12_keepsAct_24 1 rfl rfl ?_
    refine am_sipush (v := 1074) hz1 dX12_keepsAct_25 (by decide) ?_
    refine am_isub hz1 dX12_keepsAct_28 ?_
    refine am_aload_n hz1 dX12_keepsAct_29 0 rfl rfl ?_
    refine am_getR hz1 fl_X12_15 (ln_64 hG) (lk_64 hG) (lr_64_1 hG) rfl dX12_keepsAct_30 ?_
    refine am_iload_n hz1 dX12_keepsAct_33 1 rfl rfl ?_
    obtain ⟨g2, h⟩ := h
    refine am_lald hz1 (ln_66 hG) (lk_66 hG) (by rw [(ll_66 hG)]; exact g2) dX12_keepsAct_34 ?_
    obtain ⟨g3, h⟩ := h
    refine am_last hz1 (ln_66 hG) (lk_66 hG) (by rw [(ll_66 hG)]; exact g3) dX12_keepsAct_35 ?_
    refine am_iinc (v := v1 + 1) (lv' := [(1, .int (v1 + 1)), (0, .ref ((zB z).size + 64))]) hz1 dX12_keepsAct_36 1 rfl rfl rfl rfl ?_
    refine am_goto (tgt := 13) hz1 dX12_keepsAct_39 (by decide) ?_
    exact am_sub (lv' := [(0, .ref ((zB z).size + 64)), (1, .int (v1 + 1))]) [1, 0] rfl h
set_option maxRecDepth 100000 in
set_option maxHeartbeats 4000000 in
theorem c_X12_keepsAct {l : Launch} {D : va_G} {B : Heap} {G : amG} {I : amI} {L : amL}  (hG : Lay G)   (hu : muOk I) : Fx l D B yX12_keepsAct cX12_keepsAct 2 none 0 [.ref (B.size + 64)] G I L none (setI I 64 (upd (I 64) 2 (nI (kaU I + 1)))) (setL L 66 (m_ka I L)) := by
  refine Mx.of (by decide) rfl rfl (fun z e1 e2 e3 hz => ?_)
  subst e1; subst e2; subst e3
  refine b_X12_keepsAct_0 hz hG ?_
  obtain ⟨u, hu8, hu⟩ := hu
  have tail : ∀ (I1 : amI) (f : Nat → Int64) (w : Nat), w ≤ 7 → I1 64 2 = nI w → setI I1 64 (upd (I1 64) 2 (nI (w + 1))) = setI I 64 (upd (I 64) 2 (nI (kaU I + 1))) → wr f (1074 * w) 1074 (L 65) = m_ka I L → Wx z 0 0 54 [(0, .ref ((zB z).size + 64)), (1, .int (nI 0))] [] G I1 (setL L 66 f) := by
    intro I1 f w hw e1 e2 e3
    have main := for_up (P := fun i => Wx z 0 0 54 [(0, .ref ((zB z).size + 64)), (1, .int (nI i))] [] G I1 (setL L 66 (wr f (1074 * w) i (L 65)))) (n := 1074) ?_ ?_ (Nat.zero_le _)
    · rw [wr_0] at main
      exact main
    · refine b_X12_keepsAct_54 hz hG ⟨fun _ => ⟨rfl, rfl, ?_, by rw [e3]⟩, fun h => absurd (nI_le (a := 1074) (b := 1074) (Nat.le_refl _) (by decide)) h⟩
      rw [e1, nI_1, e2]
    · intro i hi ih
      have e : ((1074 : Int32) * I1 64 2 + nI i) = nI (1074 * w + i) := by
        rw [e1, show (1074 : Int32) = nI 1074 from rfl, nI_mul, nI_add]
      refine b_X12_keepsAct_54 hz hG ⟨fun h => absurd h (nI_ge (b := 1074) hi (by decide)), fun _ => ⟨in_nI hi (by decide), by rw [e]; exact in_nI (by omega) (by decide), ?_⟩⟩
      rw [e, cl_nI (by omega), cl_nI (by omega), setL_ss, setL_s, setL_n (by decide), wr_sL rfl, nI_1]
      exact ih
  refine ⟨fun h => ?_, fun h => ?_⟩
  · have hk : kaU I = u := by rw [kaU, if_neg h, hu, cl_nI (by omega)]
    have h8 : u ≠ 8 := fun e => h (by rw [hu, e]; rfl)
    have := tail I (L 66) u (by omega) hu (by rw [hk]) (by rw [m_ka, kaS, if_neg h, hk])
    rw [setL_id] at this
    exact this
  · have hk : kaU I = 7 := by rw [kaU, if_pos h]
    have main := for_up (P := fun i => Wx z 0 0 13 [(0, .ref ((zB z).size + 64)), (1, .int (nI (1074 + i)))] [] G I (setL L 66 (wr (L 66) 0 i (fun j => L 66 (j + 1074))))) (n := 7518) ?_ ?_ (Nat.zero_le _)
    · rw [wr_0, setL_id] at main
      exact main
    · refine b_X12_keepsAct_13 hz hG ⟨fun _ => ?_, fun h => absurd (nI_le (a := 8592) (b := 8592) (Nat.le_refl _) (by decide)) h⟩
      refine tail _ _ 7 (by omega) (by rw [setI_s, upd_s, h]; rfl) ?_ (by rw [m_ka, kaS, if_pos h, hk])
      rw [setI_ss, setI_s, upd_upd, hk]
    · intro i hi ih
      have e : nI (1074 + i) - (1074 : Int32) = nI i := by
        rw [Nat.add_comm, ← nI_add]
        exact Int32.add_sub_cancel _ _
      refine b_X12_keepsAct_13 hz hG ⟨fun h => absurd h (nI_ge (b := 8592) (by omega) (by decide)), fun _ => ⟨in_nI (by omega) (by decide), by rw [e]; exact in_nI (by omega) (by decide), ?_⟩⟩
      rw [e, cl_nI (by omega), cl_nI (by omega), setL_ss, setL_s, wr_out (by omega), Nat.add_comm 1074 i]
      have := wr_sL (f := L 66) (b := 0) (i := i) (v := fun j => L 66 (j + 1074)) rfl
      rw [Nat.zero_add] at this
      rw [this, nI_1, Nat.add_comm i 1074]
      exact ih
def m_al (n : Int32) (a : Nat) : Int32 := if n ≤ nI a then 0 else (1 : Int32) <<< (nI a &&& 31)
theorem wr_I0 {f : Nat → Int32} {i : Nat} {v : Nat → Int32} {x : Int32} (hx : x = v i) : upd (wr f 0 i v) i x = wr f 0 (i + 1) v := by
  have := wr_sI (f := f) (b := 0) (i := i) (v := v) hx
  rw [Nat.zero_add] at this
  exact this
theorem wr_L0 {f : Nat → Int64} {i : Nat} {v : Nat → Int64} {x : Int64} (hx : x = v i) : vp_updL (wr f 0 i v) i x = wr f 0 (i + 1) v := by
  have := wr_sL (f := f) (b := 0) (i := i) (v := v) hx
  rw [Nat.zero_add] at this
  exact this
set_option maxRecDepth 100000 in
set_option maxHeartbeats 4000000 in
theorem b_X12_alone_0 {z : amZ} {post : amP} {G : amG} {I : amI} {L : amL} (hz : Go z cX12_alone RX12 3 none 0 0 0 post) (hG : Lay G) {v1 : Int32} (h : Wx z 0 0 7 [(0, .ref ((zB z).size + 64)), (1, .int v1), (2, .int 0)] [] G (setI I 64 (upd (I 64) 12 v1)) L) : Wx z 0 0 0 [(0, .ref ((zB z).size + 64)), (1, .int v1)] [] G I L := by
  have hz1 := hz.1
  refine am_aload_n hz1 dX12_alone_0 0 rfl rfl ?_
  refine am_iload_n hz1 dX12_alone_1 1 rfl rfl ?_
  refine am_putI hz1 fl_X12_170 (ln_64 hG) (lk_64 hG) rfl rfl (fun _ => rfl) dX12_alone_2 ?_
  refine am_iconst (v := 0) hz1 dX12_alone_5 (by decide) ?_
  refine am_istore_n (lv' := [(2, .int 0), (0, .ref ((zB z).size + 64)), (1, .int v1)]) hz1 dX12_alone_6 rfl rfl rfl ?_
  exact am_sub (lv' := [(0, .ref ((zB z).size + 64)), (1, .int v1), (2, .int 0)]) [1, 2, 0] rfl h
set_option maxRecDepth 100000 in
set_option maxHeartbeats 4000000 in
theorem b_X12_alone_7 {z : amZ} {post : amP} {G : amG} {I : amI} {L : amL} (hz : Go z cX12_alone RX12 3 none 0 0 0 post) (hG : Lay G) {v1 : Int32} {v2 : Int32} (h : (((16 : Int32) ≤ v2) → post none G I L) ∧ ((¬ (16 : Int32) ≤ v2) → ((v1 ≤ v2) → vp_in v2 16 ∧ Wx z 0 0 7 [(0, .ref ((zB z).size + 64)), (1, .int v1), (2, .int (v2 + 1))] [] G (setI I 70 (upd (I 70) v2.toNatClampNeg (0 : Int32))) L) ∧ ((¬ v1 ≤ v2) → vp_in v2 16 ∧ Wx z 0 0 7 [(0, .ref ((zB z).size + 64)), (1, .int v1), (2, .int (v2 + 1))] [] G (setI I 70 (upd (I 70) v2.toNatClampNeg ((1 : Int32) <<< (v2 &&& 31)))) L))) : Wx z 0 0 7 [(0, .ref ((zB z).size + 64)), (1, .int v1), (2, .int v2)] [] G I L := by
  have hz1 := hz.1
  refine am_iload_n hz1 dX12_alone_7 2 rfl rfl ?_
  refine am_bipush (v := 16) hz1 dX12_alone_8 (by decide) ?_
  refine am_icmp_ge (tgt := 37) hz1 dX12_alone_10 (by decide) (fun c1 => ?_) (fun c1 => ?_)
  · replace h := h.1 c1
    exact am_return hz dX12_alone_37 h
  · replace h := h.2 c1
    refine am_aload_n hz1 dX12_alone_13 0 rfl rfl ?_
    refine am_getR hz1 fl_X12_29 (ln_64 hG) (lk_64 hG) (lr_64_13 hG) rfl dX12_alone_14 ?_
    refine am_iload_n hz1 dX12_alone_17 2 rfl rfl ?_
    refine am_iload_n hz1 dX12_alone_18 2 rfl rfl ?_
    refine am_iload_n hz1 dX12_alone_19 1 rfl rfl ?_
    refine am_icmp_ge (tgt := 29) hz1 dX12_alone_20 (by decide) (fun c2 => ?_) (fun c2 => ?_)
    · replace h := h.1 c2
      refine am_iconst (v := 0) hz1 dX12_alone_29 (by decide) ?_
      obtain ⟨g3, h⟩ := h
      refine am_iast hz1 (ln_70 hG) (lk_70 hG) (by rw [(ll_70 hG)]; exact g3) dX12_alone_30 ?_
      refine am_iinc (v := v2 + 1) (lv' := [(2, .int (v2 + 1)), (0, .ref ((zB z).size + 64)), (1, .int v1)]) hz1 dX12_alone_31 2 rfl rfl rfl rfl ?_
      refine am_goto (tgt := 7) hz1 dX12_alone_34 (by decide) ?_
      exact am_sub (lv' := [(0, .ref ((zB z).size + 64)), (1, .int v1), (2, .int (v2 + 1))]) [1, 2, 0] rfl h
    · replace h := h.2 c2
      refine am_iconst (v := 1) hz1 dX12_alone_23 (by decide) ?_
      refine am_iload_n hz1 dX12_alone_24 2 rfl rfl ?_
      refine am_ishl hz1 dX12_alone_25 ?_
      refine am_goto (tgt := 30) hz1 dX12_alone_26 (by decide) ?_
      obtain ⟨g4, h⟩ := h
      refine am_iast hz1 (ln_70 hG) (lk_70 hG) (by rw [(ll_70 hG)]; exact g4) dX12_alone_30 ?_
      refine am_iinc (v := v2 + 1) (lv' := [(2, .int (v2 + 1)), (0, .ref ((zB z).size + 64)), (1, .int v1)]) hz1 dX12_alone_31 2 rfl rfl rfl rfl ?_
      refine am_goto (tgt := 7) hz1 dX12_alone_34 (by decide) ?_
      exact am_sub (lv' := [(0, .ref ((zB z).size + 64)), (1, .int v1), (2, .int (v2 + 1))]) [1, 2, 0] rfl h
set_option maxRecDepth 100000 in
set_option maxHeartbeats 4000000 in
theorem c_X12_alone {l : Launch} {D : va_G} {B : Heap} {G : amG} {I : amI} {L : amL}  (hG : Lay G)  (v1 : Int32)  : Fx l D B yX12_alone cX12_alone 3 none 0 [.ref (B.size + 64), .int v1] G I L none (setI (setI I 64 (upd (I 64) 12 v1)) 70 (wr (I 70) 0 16 (m_al v1))) L := by
  refine Mx.of (by decide) rfl rfl (fun z e1 e2 e3 hz => ?_)
  subst e1; subst e2; subst e3
  refine b_X12_alone_0 hz hG ?_
  have main := for_up (P := fun i => Wx z 0 0 7 [(0, .ref ((zB z).size + 64)), (1, .int v1), (2, .int (nI i))] [] G (setI (setI I 64 (upd (I 64) 12 v1)) 70 (wr (I 70) 0 i (m_al v1))) L) (n := 16) ?_ ?_ (Nat.zero_le _)
  · rw [wr_0, show I 70 = (setI I 64 (upd (I 64) 12 v1)) 70 from (setI_n (by decide)).symm, setI_id] at main
    exact main
  · exact b_X12_alone_7 hz hG ⟨fun _ => ⟨rfl, rfl, rfl, rfl⟩, fun h => absurd (nI_le (a := 16) (b := 16) (Nat.le_refl _) (by decide)) h⟩
  · intro i hi ih
    refine b_X12_alone_7 hz hG ⟨fun h => absurd h (nI_ge (b := 16) hi (by decide)), fun _ => ⟨fun h => ⟨in_nI hi (by decide), ?_⟩, fun h => ⟨in_nI hi (by decide), ?_⟩⟩⟩
    · rw [setI_ss, setI_s, cl_nI (by omega), wr_I0 (by rw [m_al, if_pos h]), nI_1]
      exact ih
    · rw [setI_ss, setI_s, cl_nI (by omega), wr_I0 (by rw [m_al, if_neg h]), nI_1]
      exact ih
def m_tk (f : Nat → Int64) (g : Nat → Int32) (m e : Int32) : Nat → Int64 := m_clr (wr (vp_updL f 0 m.toInt64) 1 16 (fun a => if m ≤ nI a then 0 else (g a).toInt64)) e
set_option maxRecDepth 100000 in
set_option maxHeartbeats 4000000 in
theorem b_X12_takesTold_0 {z : amZ} {post : amP} {G : amG} {I : amI} {L : amL} (hz : Go z cX12_takesTold RX12 2 none 1 0 0 post) (hG : Lay G)  (h : Wx z 0 0 13 [(0, .ref ((zB z).size + 64)), (1, .int 0)] [] G I (setL L 65 (vp_updL (L 65) (0 : Int32).toNatClampNeg ((I 64 12).toInt64)))) : Wx z 0 0 0 [(0, .ref ((zB z).size + 64))] [] G I L := by
  have hz1 := hz.1
  refine am_aload_n hz1 dX12_takesTold_0 0 rfl rfl ?_
  refine am_getR hz1 fl_X12_9 (ln_64 hG) (lk_64 hG) (lr_64_0 hG) rfl dX12_takesTold_1 ?_
  refine am_iconst (v := 0) hz1 dX12_takesTold_4 (by decide) ?_
  refine am_aload_n hz1 dX12_takesTold_5 0 rfl rfl ?_
  refine am_getI hz1 fl_X12_170 (ln_64 hG) (lk_64 hG) rfl dX12_takesTold_6 ?_
  refine am_i2l hz1 dX12_takesTold_9 ?_
  refine am_last hz1 (ln_65 hG) (lk_65 hG) (by rw [(ll_65 hG)]; exact in_nI (n := 0) (by decide) (by decide)) dX12_takesTold_10 ?_
  refine am_iconst (v := 0) hz1 dX12_takesTold_11 (by decide) ?_
  refine am_istore_n (lv' := [(1, .int 0), (0, .ref ((zB z).size + 64))]) hz1 dX12_takesTold_12 rfl rfl rfl ?_
  exact am_sub (lv' := [(0, .ref ((zB z).size + 64)), (1, .int 0)]) [1, 0] rfl h
set_option maxRecDepth 100000 in
set_option maxHeartbeats 4000000 in
theorem b_X12_takesTold_13 {z : amZ} {post : amP} {G : amG} {I : amI} {L : amL} (hz : Go z cX12_takesTold RX12 2 none 1 0 0 post) (hG : Lay G) {v1 : Int32} (h : (((16 : Int32) ≤ v1) → post none G (setI I 64 (upd (I 64) 24 0)) (setL L 65 (m_clr (L 65) (I 64 5)))) ∧ ((¬ (16 : Int32) ≤ v1) → (((I 64 12) ≤ v1) → vp_in ((1 : Int32) + v1) 1074 ∧ Wx z 0 0 13 [(0, .ref ((zB z).size + 64)), (1, .int (v1 + 1))] [] G I (setL L 65 (vp_updL (L 65) ((1 : Int32) + v1).toNatClampNeg (0 : Int64)))) ∧ ((¬ (I 64 12) ≤ v1) → vp_in v1 16 ∧ vp_in ((1 : Int32) + v1) 1074 ∧ Wx z 0 0 13 [(0, .ref ((zB z).size + 64)), (1, .int (v1 + 1))] [] G I (setL L 65 (vp_updL (L 65) ((1 : Int32) + v1).toNatClampNeg ((I 70 v1.toNatClampNeg).toInt64)))))) : Wx z 0 0 13 [(0, .ref ((zB z).size + 64)), (1, .int v1)] [] G I L := by
  have hz1 := hz.1
  refine am_iload_n hz1 dX12_takesTold_13 1 rfl rfl ?_
  refine am_bipush (v := 16) hz1 dX12_takesTold_14 (by decide) ?_
  refine am_icmp_ge (tgt := 52) hz1 dX12_takesTold_16 (by decide) (fun c1 => ?_) (fun c1 => ?_)
  · replace h := h.1 c1
    refine am_aload_n hz1 dX12_takesTold_52 0 rfl rfl ?_
    refine am_cVf hz cv_X12_75 [] [] (c_X12_clears hG  ) (ln_64 hG) (lk_64 hG) rfl rfl rfl ⟨Nat.le_refl _, Nat.le_refl _⟩ (Nat.le_of_ble_eq_true rfl) dX12_takesTold_53 ?_
    exact am_return hz dX12_takesTold_56 h
  · replace h := h.2 c1
    refine am_aload_n hz1 dX12_takesTold_19 0 rfl rfl ?_
    refine am_getR hz1 fl_X12_9 (ln_64 hG) (lk_64 hG) (lr_64_0 hG) rfl dX12_takesTold_20 ?_
    refine am_iconst (v := 1) hz1 dX12_takesTold_23 (by decide) ?_
    refine am_iload_n hz1 dX12_takesTold_24 1 rfl rfl ?_
    refine am_iadd hz1 dX12_takesTold_25 ?_
    refine am_iload_n hz1 dX12_takesTold_26 1 rfl rfl ?_
    refine am_aload_n hz1 dX12_takesTold_27 0 rfl rfl ?_
    refine am_getI hz1 fl_X12_170 (ln_64 hG) (lk_64 hG) rfl dX12_takesTold_28 ?_
    refine am_icmp_ge (tgt := 44) hz1 dX12_takesTold_31 (by decide) (fun c2 => ?_) (fun c2 => ?_)
    · replace h := h.1 c2
      refine am_lconst (v := 0) hz1 dX12_takesTold_44 (by decide) ?_
      obtain ⟨g3, h⟩ := h
      refine am_last hz1 (ln_65 hG) (lk_65 hG) (by rw [(ll_65 hG)]; exact g3) dX12_takesTold_45 ?_
      refine am_iinc (v := v1 + 1) (lv' := [(1, .int (v1 + 1)), (0, .ref ((zB z).size + 64))]) hz1 dX12_takesTold_46 1 rfl rfl rfl rfl ?_
      refine am_goto (tgt := 13) hz1 dX12_takesTold_49 (by decide) ?_
      exact am_sub (lv' := [(0, .ref ((zB z).size + 64)), (1, .int (v1 + 1))]) [1, 0] rfl h
    · replace h := h.2 c2
      refine am_aload_n hz1 dX12_takesTold_34 0 rfl rfl ?_
      refine am_getR hz1 fl_X12_29 (ln_64 hG) (lk_64 hG) (lr_64_13 hG) rfl dX12_takesTold_35 ?_
      refine am_iload_n hz1 dX12_takesTold_38 1 rfl rfl ?_
      obtain ⟨g4, h⟩ := h
      refine am_iald hz1 (ln_70 hG) (lk_70 hG) (by rw [(ll_70 hG)]; exact g4) dX12_takesTold_39 ?_
      refine am_i2l hz1 dX12_takesTold_40 ?_
      refine am_goto (tgt := 45) hz1 dX12_takesTold_41 (by decide) ?_
      obtain ⟨g5, h⟩ := h
      refine am_last hz1 (ln_65 hG) (lk_65 hG) (by rw [(ll_65 hG)]; exact g5) dX12_takesTold_45 ?_
      refine am_iinc (v := v1 + 1) (lv' := [(1, .int (v1 + 1)), (0, .ref ((zB z).size + 64))]) hz1 dX12_takesTold_46 1 rfl rfl rfl rfl ?_
      refine am_goto (tgt := 13) hz1 dX12_takesTold_49 (by decide) ?_
      exact am_sub (lv' := [(0, .ref ((zB z).size + 64)), (1, .int (v1 + 1))]) [1, 0] rfl h
set_option maxRecDepth 100000 in
set_option maxHeartbeats 4000000 in
theorem c_X12_takesTold {l : Launch} {D : va_G} {B : Heap} {G : amG} {I : amI} {L : amL}  (hG : Lay G)    : Fx l D B yX12_takesTold cX12_takesTold 2 none 1 [.ref (B.size + 64)] G I L none (setI I 64 (upd (I 64) 24 0)) (setL L 65 (m_tk (L 65) (I 70) (I 64 12) (I 64 5))) := by
  refine Mx.of (by decide) rfl rfl (fun z e1 e2 e3 hz => ?_)
  subst e1; subst e2; subst e3
  refine b_X12_takesTold_0 hz hG ?_
  have main := for_up (P := fun i => Wx z 0 0 13 [(0, .ref ((zB z).size + 64)), (1, .int (nI i))] [] G I (setL L 65 (wr (vp_updL (L 65) 0 (I 64 12).toInt64) 1 i (fun a => if I 64 12 ≤ nI a then 0 else (I 70 a).toInt64)))) (n := 16) ?_ ?_ (Nat.zero_le _)
  · rw [wr_0] at main
    exact main
  · refine b_X12_takesTold_13 hz hG ⟨fun _ => ⟨rfl, rfl, rfl, ?_⟩, fun h => absurd (nI_le (a := 16) (b := 16) (Nat.le_refl _) (by decide)) h⟩
    rw [setL_ss, setL_s]
    rfl
  · intro i hi ih
    have e : ((1 : Int32) + nI i).toNatClampNeg = 1 + i := clA (a := 1) (by omega)
    refine b_X12_takesTold_13 hz hG ⟨fun h => absurd h (nI_ge (b := 16) hi (by decide)), fun _ => ⟨fun h => ⟨inA (a := 1) (by omega) (by decide), ?_⟩, fun h => ⟨in_nI hi (by decide), inA (a := 1) (by omega) (by decide), ?_⟩⟩⟩
    · rw [setL_ss, setL_s, e, wr_sL (by rw [if_pos h]), nI_1]
      exact ih
    · rw [setL_ss, setL_s, e, wr_sL (by rw [if_neg h, cl_nI (by omega)]), nI_1]
      exact ih
set_option maxRecDepth 100000 in
set_option maxHeartbeats 4000000 in
theorem b_X12_turned_0 {z : amZ} {post : amP} {G : amG} {I : amI} {L : amL} (hz : Go z cX12_turned RX12 2 none 3 0 0 post) (hG : Lay G)  (h : Wx z 0 0 10 [(0, .ref ((zB z).size + 64)), (1, .int 0)] [] G (setI I 64 (upd (I 64) 12 (m_many L))) L) : Wx z 0 0 0 [(0, .ref ((zB z).size + 64))] [] G I L := by
  have hz1 := hz.1
  refine am_aload_n hz1 dX12_turned_0 0 rfl rfl ?_
  refine am_aload_n hz1 dX12_turned_1 0 rfl rfl ?_
  refine am_cVf hz cv_X12_78 [] [.ref ((zB z).size + 64)] (c_X12_many hG  ) (ln_64 hG) (lk_64 hG) rfl rfl rfl ⟨Nat.le_refl _, Nat.le_refl _⟩ (Nat.le_of_ble_eq_true rfl) dX12_turned_2 ?_
  refine am_putI hz1 fl_X12_170 (ln_64 hG) (lk_64 hG) rfl rfl (fun _ => rfl) dX12_turned_5 ?_
  refine am_iconst (v := 0) hz1 dX12_turned_8 (by decide) ?_
  refine am_istore_n (lv' := [(1, .int 0), (0, .ref ((zB z).size + 64))]) hz1 dX12_turned_9 rfl rfl rfl ?_
  exact am_sub (lv' := [(0, .ref ((zB z).size + 64)), (1, .int 0)]) [1, 0] rfl h
set_option maxRecDepth 100000 in
set_option maxHeartbeats 4000000 in
theorem b_X12_turned_10 {z : amZ} {post : amP} {G : amG} {I : amI} {L : amL} (hz : Go z cX12_turned RX12 2 none 3 0 0 post) (hG : Lay G) {v1 : Int32} (h : (((16 : Int32) ≤ v1) → post none G I L) ∧ ((¬ (16 : Int32) ≤ v1) → (((I 64 12) ≤ v1) → vp_in v1 16 ∧ Wx z 0 0 10 [(0, .ref ((zB z).size + 64)), (1, .int (v1 + 1))] [] G (setI I 70 (upd (I 70) v1.toNatClampNeg (0 : Int32))) L) ∧ ((¬ (I 64 12) ≤ v1) → (mOk L) ∧ vp_in v1 16 ∧ Wx z 0 0 10 [(0, .ref ((zB z).size + 64)), (1, .int (v1 + 1))] [] G (setI I 70 (upd (I 70) v1.toNatClampNeg (m_dn L v1))) L))) : Wx z 0 0 10 [(0, .ref ((zB z).size + 64)), (1, .int v1)] [] G I L := by
  have hz1 := hz.1
  refine am_iload_n hz1 dX12_turned_10 1 rfl rfl ?_
  refine am_bipush (v := 16) hz1 dX12_turned_11 (by decide) ?_
  refine am_icmp_ge (tgt := 45) hz1 dX12_turned_13 (by decide) (fun c1 => ?_) (fun c1 => ?_)
  · replace h := h.1 c1
    exact am_return hz dX12_turned_45 h
  · replace h := h.2 c1
    refine am_aload_n hz1 dX12_turned_16 0 rfl rfl ?_
    refine am_getR hz1 fl_X12_29 (ln_64 hG) (lk_64 hG) (lr_64_13 hG) rfl dX12_turned_17 ?_
    refine am_iload_n hz1 dX12_turned_20 1 rfl rfl ?_
    refine am_iload_n hz1 dX12_turned_21 1 rfl rfl ?_
    refine am_aload_n hz1 dX12_turned_22 0 rfl rfl ?_
    refine am_getI hz1 fl_X12_170 (ln_64 hG) (lk_64 hG) rfl dX12_turned_23 ?_
    refine am_icmp_ge (tgt := 37) hz1 dX12_turned_26 (by decide) (fun c2 => ?_) (fun c2 => ?_)
    · replace h := h.1 c2
      refine am_iconst (v := 0) hz1 dX12_turned_37 (by decide) ?_
      obtain ⟨g3, h⟩ := h
      refine am_iast hz1 (ln_70 hG) (lk_70 hG) (by rw [(ll_70 hG)]; exact g3) dX12_turned_38 ?_
      refine am_iinc (v := v1 + 1) (lv' := [(1, .int (v1 + 1)), (0, .ref ((zB z).size + 64))]) hz1 dX12_turned_39 1 rfl rfl rfl rfl ?_
      refine am_goto (tgt := 10) hz1 dX12_turned_42 (by decide) ?_
      exact am_sub (lv' := [(0, .ref ((zB z).size + 64)), (1, .int (v1 + 1))]) [1, 0] rfl h
    · replace h := h.2 c2
      refine am_aload_n hz1 dX12_turned_29 0 rfl rfl ?_
      refine am_iload_n hz1 dX12_turned_30 1 rfl rfl ?_
      obtain ⟨g4, h⟩ := h
      refine am_cVf hz cv_X12_97 [.int v1] [.int v1, .ref ((zB z).size + 70)] (c_X12_down hG v1 g4) (ln_64 hG) (lk_64 hG) rfl rfl rfl ⟨Nat.le_refl _, Nat.le_refl _⟩ (Nat.le_of_ble_eq_true rfl) dX12_turned_31 ?_
      refine am_goto (tgt := 38) hz1 dX12_turned_34 (by decide) ?_
      obtain ⟨g5, h⟩ := h
      refine am_iast hz1 (ln_70 hG) (lk_70 hG) (by rw [(ll_70 hG)]; exact g5) dX12_turned_38 ?_
      refine am_iinc (v := v1 + 1) (lv' := [(1, .int (v1 + 1)), (0, .ref ((zB z).size + 64))]) hz1 dX12_turned_39 1 rfl rfl rfl rfl ?_
      refine am_goto (tgt := 10) hz1 dX12_turned_42 (by decide) ?_
      exact am_sub (lv' := [(0, .ref ((zB z).size + 64)), (1, .int (v1 + 1))]) [1, 0] rfl h
set_option maxRecDepth 100000 in
set_option maxHeartbeats 4000000 in
theorem c_X12_turned {l : Launch} {D : va_G} {B : Heap} {G : amG} {I : amI} {L : amL}  (hG : Lay G)   (hM : mOk L) : Fx l D B yX12_turned cX12_turned 2 none 3 [.ref (B.size + 64)] G I L none (setI (setI I 64 (upd (I 64) 12 (m_many L))) 70 (wr (I 70) 0 16 (fun a => if m_many L ≤ nI a then 0 else m_dn L (nI a)))) L := by
  refine Mx.of (by decide) rfl rfl (fun z e1 e2 e3 hz => ?_)
  subst e1; subst e2; subst e3
  refine b_X12_turned_0 hz hG ?_
  have main := for_up (P := fun i => Wx z 0 0 10 [(0, .ref ((zB z).size + 64)), (1, .int (nI i))] [] G (setI (setI I 64 (upd (I 64) 12 (m_many L))) 70 (wr (I 70) 0 i (fun a => if m_many L ≤ nI a then 0 else m_dn L (nI a)))) L) (n := 16) ?_ ?_ (Nat.zero_le _)
  · rw [wr_0, show I 70 = (setI I 64 (upd (I 64) 12 (m_many L))) 70 from (setI_n (by decide)).symm, setI_id] at main
    exact main
  · exact b_X12_turned_10 hz hG ⟨fun _ => ⟨rfl, rfl, rfl, rfl⟩, fun h => absurd (nI_le (a := 16) (b := 16) (Nat.le_refl _) (by decide)) h⟩
  · intro i hi ih
    have e12 : ∀ f, (setI (setI I 64 (upd (I 64) 12 (m_many L))) 70 f) 64 12 = m_many L := fun f => by rw [setI_n (by decide), setI_s, upd_s]
    refine b_X12_turned_10 hz hG ⟨fun h => absurd h (nI_ge (b := 16) hi (by decide)), fun _ => ⟨fun h => ⟨in_nI hi (by decide), ?_⟩, fun h => ⟨hM, in_nI hi (by decide), ?_⟩⟩⟩
    · rw [e12] at h
      rw [setI_ss, setI_s, cl_nI (by omega), wr_I0 (by rw [if_pos h]), nI_1]
      exact ih
    · rw [e12] at h
      rw [setI_ss, setI_s, cl_nI (by omega), wr_I0 (by rw [if_neg h]), nI_1]
      exact ih
set_option maxRecDepth 100000 in
set_option maxHeartbeats 4000000 in
theorem b_X12_empties_0 {z : amZ} {post : amP} {G : amG} {I : amI} {L : amL} (hz : Go z cX12_empties RX12 2 none 0 0 0 post) (hG : Lay G)  (h : Wx z 0 0 2 [(0, .ref ((zB z).size + 64)), (1, .int 0)] [] G I L) : Wx z 0 0 0 [(0, .ref ((zB z).size + 64))] [] G I L := by
  have hz1 := hz.1
  refine am_iconst (v := 0) hz1 dX12_empties_0 (by decide) ?_
  refine am_istore_n (lv' := [(1, .int 0), (0, .ref ((zB z).size + 64))]) hz1 dX12_empties_1 rfl rfl rfl ?_
  exact am_sub (lv' := [(0, .ref ((zB z).size + 64)), (1, .int 0)]) [1, 0] rfl h
set_option maxRecDepth 100000 in
set_option maxHeartbeats 4000000 in
theorem b_X12_empties_2 {z : amZ} {post : amP} {G : amG} {I : amI} {L : amL} (hz : Go z cX12_empties RX12 2 none 0 0 0 post) (hG : Lay G) {v1 : Int32} (h : (((256 : Int32) ≤ v1) → post none G I L) ∧ ((¬ (256 : Int32) ≤ v1) → vp_in v1 256 ∧ Wx z 0 0 2 [(0, .ref ((zB z).size + 64)), (1, .int (v1 + 1))] [] G I (setL L 72 (vp_updL (L 72) v1.toNatClampNeg (0 : Int64))))) : Wx z 0 0 2 [(0, .ref ((zB z).size + 64)), (1, .int v1)] [] G I L := by
  have hz1 := hz.1
  refine am_iload_n hz1 dX12_empties_2 1 rfl rfl ?_
  refine am_sipush (v := 256) hz1 dX12_empties_3 (by decide) ?_
  refine am_icmp_ge (tgt := 22) hz1 dX12_empties_6 (by decide) (fun c1 => ?_) (fun c1 => ?_)
  · replace h := h.1 c1
    exact am_return hz dX12_empties_22 h
  · replace h := h.2 c1
    refine am_aload_n hz1 dX12_empties_9 0 rfl rfl ?_
    refine am_getR hz1 fl_X12_35 (ln_64 hG) (lk_64 hG) (lr_64_16 hG) rfl dX12_empties_10 ?_
    refine am_iload_n hz1 dX12_empties_13 1 rfl rfl ?_
    refine am_lconst (v := 0) hz1 dX12_empties_14 (by decide) ?_
    obtain ⟨g2, h⟩ := h
    refine am_last hz1 (ln_72 hG) (lk_72 hG) (by rw [(ll_72 hG)]; exact g2) dX12_empties_15 ?_
    refine am_iinc (v := v1 + 1) (lv' := [(1, .int (v1 + 1)), (0, .ref ((zB z).size + 64))]) hz1 dX12_empties_16 1 rfl rfl rfl rfl ?_
    refine am_goto (tgt := 2) hz1 dX12_empties_19 (by decide) ?_
    exact am_sub (lv' := [(0, .ref ((zB z).size + 64)), (1, .int (v1 + 1))]) [1, 0] rfl h
set_option maxRecDepth 100000 in
set_option maxHeartbeats 4000000 in
theorem c_X12_empties {l : Launch} {D : va_G} {B : Heap} {G : amG} {I : amI} {L : amL}  (hG : Lay G)    : Fx l D B yX12_empties cX12_empties 2 none 0 [.ref (B.size + 64)] G I L none I (setL L 72 (wr (L 72) 0 256 (fun _ => 0))) := by
  refine Mx.of (by decide) rfl rfl (fun z e1 e2 e3 hz => ?_)
  subst e1; subst e2; subst e3
  refine b_X12_empties_0 hz hG ?_
  have main := for_up (P := fun i => Wx z 0 0 2 [(0, .ref ((zB z).size + 64)), (1, .int (nI i))] [] G I (setL L 72 (wr (L 72) 0 i (fun _ => 0)))) (n := 256) ?_ ?_ (Nat.zero_le _)
  · rw [wr_0, setL_id] at main
    exact main
  · exact b_X12_empties_2 hz hG ⟨fun _ => ⟨rfl, rfl, rfl, rfl⟩, fun h => absurd (nI_le (a := 256) (b := 256) (Nat.le_refl _) (by decide)) h⟩
  · intro i hi ih
    refine b_X12_empties_2 hz hG ⟨fun h => absurd h (nI_ge (b := 256) hi (by decide)), fun _ => ⟨in_nI hi (by decide), ?_⟩⟩
    rw [setL_ss, setL_s, cl_nI (by omega), wr_L0 rfl, nI_1]
    exact ih
theorem fcell (f i : Nat) : ((17 : Int32) + 256 * nI f) + nI i = nI (17 + 256 * f + i) := by
  rw [show (17 : Int32) = nI 17 from rfl, show (256 : Int32) = nI 256 from rfl, nI_mul, nI_add, nI_add]
set_option maxRecDepth 100000 in
set_option maxHeartbeats 4000000 in
theorem b_X12_takesMade_0 {z : amZ} {post : amP} {G : amG} {I : amI} {L : amL} (hz : Go z cX12_takesMade RX12 3 none 0 0 0 post) (hG : Lay G) {v1 : Int32} (h : Wx z 0 0 2 [(0, .ref ((zB z).size + 64)), (1, .int v1), (2, .int 0)] [] G I L) : Wx z 0 0 0 [(0, .ref ((zB z).size + 64)), (1, .int v1)] [] G I L := by
  have hz1 := hz.1
  refine am_iconst (v := 0) hz1 dX12_takesMade_0 (by decide) ?_
  refine am_istore_n (lv' := [(2, .int 0), (0, .ref ((zB z).size + 64)), (1, .int v1)]) hz1 dX12_takesMade_1 rfl rfl rfl ?_
  exact am_sub (lv' := [(0, .ref ((zB z).size + 64)), (1, .int v1), (2, .int 0)]) [1, 2, 0] rfl h
set_option maxRecDepth 100000 in
set_option maxHeartbeats 4000000 in
theorem b_X12_takesMade_2 {z : amZ} {post : amP} {G : amG} {I : amI} {L : amL} (hz : Go z cX12_takesMade RX12 3 none 0 0 0 post) (hG : Lay G) {v1 : Int32} {v2 : Int32} (h : (((256 : Int32) ≤ v2) → post none G I L) ∧ ((¬ (256 : Int32) ≤ v2) → vp_in v2 256 ∧ vp_in (((17 : Int32) + ((256 : Int32) * v1)) + v2) 1074 ∧ Wx z 0 0 2 [(0, .ref ((zB z).size + 64)), (1, .int v1), (2, .int (v2 + 1))] [] G I (setL L 65 (vp_updL (L 65) (((17 : Int32) + ((256 : Int32) * v1)) + v2).toNatClampNeg (L 72 v2.toNatClampNeg))))) : Wx z 0 0 2 [(0, .ref ((zB z).size + 64)), (1, .int v1), (2, .int v2)] [] G I L := by
  have hz1 := hz.1
  refine am_iload_n hz1 dX12_takesMade_2 2 rfl rfl ?_
  refine am_sipush (v := 256) hz1 dX12_takesMade_3 (by decide) ?_
  refine am_icmp_ge (tgt := 36) hz1 dX12_takesMade_6 (by decide) (fun c1 => ?_) (fun c1 => ?_)
  · replace h := h.1 c1
    exact am_return hz dX12_takesMade_36 h
  · replace h := h.2 c1
    refine am_aload_n hz1 dX12_takesMade_9 0 rfl rfl ?_
    refine am_getR hz1 fl_X12_9 (ln_64 hG) (lk_64 hG) (lr_64_0 hG) rfl dX12_takesMade_10 ?_
    refine am_bipush (v := 17) hz1 dX12_takesMade_13 (by decide) ?_
    refine am_sipush (v := 256) hz1 dX12_takesMade_15 (by decide) ?_
    refine am_iload_n hz1 dX12_takesMade_18 1 rfl rfl ?_
    refine am_imul hz1 dX12_takesMade_19 ?_
    refine am_iadd hz1 dX12_takesMade_20 ?_
    refine am_iload_n hz1 dX12_takesMade_21 2 rfl rfl ?_
    refine am_iadd hz1 dX12_takesMade_22 ?_
    refine am_aload_n hz1 dX12_takesMade_23 0 rfl rfl ?_
    refine am_getR hz1 fl_X12_35 (ln_64 hG) (lk_64 hG) (lr_64_16 hG) rfl dX12_takesMade_24 ?_
    refine am_iload_n hz1 dX12_takesMade_27 2 rfl rfl ?_
    obtain ⟨g2, h⟩ := h
    refine am_lald hz1 (ln_72 hG) (lk_72 hG) (by rw [(ll_72 hG)]; exact g2) dX12_takesMade_28 ?_
    obtain ⟨g3, h⟩ := h
    refine am_last hz1 (ln_65 hG) (lk_65 hG) (by rw [(ll_65 hG)]; exact g3) dX12_takesMade_29 ?_
    refine am_iinc (v := v2 + 1) (lv' := [(2, .int (v2 + 1)), (0, .ref ((zB z).size + 64)), (1, .int v1)]) hz1 dX12_takesMade_30 2 rfl rfl rfl rfl ?_
    refine am_goto (tgt := 2) hz1 dX12_takesMade_33 (by decide) ?_
    exact am_sub (lv' := [(0, .ref ((zB z).size + 64)), (1, .int v1), (2, .int (v2 + 1))]) [1, 2, 0] rfl h
set_option maxRecDepth 100000 in
set_option maxHeartbeats 4000000 in
theorem c_X12_takesMade {l : Launch} {D : va_G} {B : Heap} {G : amG} {I : amI} {L : amL}  (hG : Lay G)  (v1 : Int32) (hf : fnOk v1) : Fx l D B yX12_takesMade cX12_takesMade 3 none 0 [.ref (B.size + 64), .int v1] G I L none I (setL L 65 (wr (L 65) (17 + 256 * v1.toNatClampNeg) 256 (L 72))) := by
  refine Mx.of (by decide) rfl rfl (fun z e1 e2 e3 hz => ?_)
  subst e1; subst e2; subst e3
  refine b_X12_takesMade_0 hz hG ?_
  obtain ⟨f, hf, rfl⟩ := hf
  have ef : (nI f).toNatClampNeg = f := cl_nI (by omega)
  have main := for_up (P := fun i => Wx z 0 0 2 [(0, .ref ((zB z).size + 64)), (1, .int (nI f)), (2, .int (nI i))] [] G I (setL L 65 (wr (L 65) (17 + 256 * f) i (L 72)))) (n := 256) ?_ ?_ (Nat.zero_le _)
  · rw [wr_0, setL_id] at main
    exact main
  · exact b_X12_takesMade_2 hz hG ⟨fun _ => ⟨rfl, rfl, rfl, by rw [ef]⟩, fun h => absurd (nI_le (a := 256) (b := 256) (Nat.le_refl _) (by decide)) h⟩
  · intro i hi ih
    refine b_X12_takesMade_2 hz hG ⟨fun h => absurd h (nI_ge (b := 256) hi (by decide)), fun _ => ⟨in_nI hi (by decide), by rw [fcell]; exact in_nI (by omega) (by decide), ?_⟩⟩
    rw [fcell, setL_ss, setL_s, setL_n (by decide), cl_nI (by omega), cl_nI (by omega), wr_sL rfl, nI_1]
    exact ih
set_option maxRecDepth 100000 in
set_option maxHeartbeats 4000000 in
theorem b_X12_takes_0 {z : amZ} {post : amP} {G : amG} {I : amI} {L : amL} (hz : Go z cX12_takes RX12 4 none 0 0 0 post) (hG : Lay G) {p1 : Nat} (hn_p1 : p1 < gN G) (hk_p1 : gK G p1 = 52) (hl_p1 : gL G p1 = 256) {v2 : Int32} (h : Wx z 0 0 2 [(0, .ref ((zB z).size + 64)), (1, .ref ((zB z).size + p1)), (2, .int v2), (3, .int 0)] [] G I L) : Wx z 0 0 0 [(0, .ref ((zB z).size + 64)), (1, .ref ((zB z).size + p1)), (2, .int v2)] [] G I L := by
  have hz1 := hz.1
  refine am_iconst (v := 0) hz1 dX12_takes_0 (by decide) ?_
  refine am_istore_n (lv' := [(3, .int 0), (0, .ref ((zB z).size + 64)), (1, .ref ((zB z).size + p1)), (2, .int v2)]) hz1 dX12_takes_1 rfl rfl rfl ?_
  exact am_sub (lv' := [(0, .ref ((zB z).size + 64)), (1, .ref ((zB z).size + p1)), (2, .int v2), (3, .int 0)]) [1, 2, 3, 0] rfl h
set_option maxRecDepth 100000 in
set_option maxHeartbeats 4000000 in
theorem b_X12_takes_2 {z : amZ} {post : amP} {G : amG} {I : amI} {L : amL} (hz : Go z cX12_takes RX12 4 none 0 0 0 post) (hG : Lay G) {p1 : Nat} (hn_p1 : p1 < gN G) (hk_p1 : gK G p1 = 52) (hl_p1 : gL G p1 = 256) {v2 : Int32} {v3 : Int32} (h : (((256 : Int32) ≤ v3) → post none G I L) ∧ ((¬ (256 : Int32) ≤ v3) → vp_in (((17 : Int32) + ((256 : Int32) * v2)) + v3) 1074 ∧ vp_in v3 256 ∧ Wx z 0 0 2 [(0, .ref ((zB z).size + 64)), (1, .ref ((zB z).size + p1)), (2, .int v2), (3, .int (v3 + 1))] [] G I (setL L p1 (vp_updL (L p1) v3.toNatClampNeg (L 65 (((17 : Int32) + ((256 : Int32) * v2)) + v3).toNatClampNeg))))) : Wx z 0 0 2 [(0, .ref ((zB z).size + 64)), (1, .ref ((zB z).size + p1)), (2, .int v2), (3, .int v3)] [] G I L := by
  have hz1 := hz.1
  refine am_iload_n hz1 dX12_takes_2 3 rfl rfl ?_
  refine am_sipush (v := 256) hz1 dX12_takes_3 (by decide) ?_
  refine am_icmp_ge (tgt := 33) hz1 dX12_takes_6 (by decide) (fun c1 => ?_) (fun c1 => ?_)
  · replace h := h.1 c1
    exact am_return hz dX12_takes_33 h
  · replace h := h.2 c1
    refine am_aload_n hz1 dX12_takes_9 1 rfl rfl ?_
    refine am_iload_n hz1 dX12_takes_10 3 rfl rfl ?_
    refine am_aload_n hz1 dX12_takes_11 0 rfl rfl ?_
    refine am_getR hz1 fl_X12_9 (ln_64 hG) (lk_64 hG) (lr_64_0 hG) rfl dX12_takes_12 ?_
    refine am_bipush (v := 17) hz1 dX12_takes_15 (by decide) ?_
    refine am_sipush (v := 256) hz1 dX12_takes_17 (by decide) ?_
    refine am_iload_n hz1 dX12_takes_20 2 rfl rfl ?_
    refine am_imul hz1 dX12_takes_21 ?_
    refine am_iadd hz1 dX12_takes_22 ?_
    refine am_iload_n hz1 dX12_takes_23 3 rfl rfl ?_
    refine am_iadd hz1 dX12_takes_24 ?_
    obtain ⟨g2, h⟩ := h
    refine am_lald hz1 (ln_65 hG) (lk_65 hG) (by rw [(ll_65 hG)]; exact g2) dX12_takes_25 ?_
    obtain ⟨g3, h⟩ := h
    refine am_last hz1 hn_p1 hk_p1 (by rw [hl_p1]; exact g3) dX12_takes_26 ?_
    refine am_iinc (v := v3 + 1) (lv' := [(3, .int (v3 + 1)), (0, .ref ((zB z).size + 64)), (1, .ref ((zB z).size + p1)), (2, .int v2)]) hz1 dX12_takes_27 3 rfl rfl rfl rfl ?_
    refine am_goto (tgt := 2) hz1 dX12_takes_30 (by decide) ?_
    exact am_sub (lv' := [(0, .ref ((zB z).size + 64)), (1, .ref ((zB z).size + p1)), (2, .int v2), (3, .int (v3 + 1))]) [1, 2, 3, 0] rfl h
set_option maxRecDepth 100000 in
set_option maxHeartbeats 4000000 in
theorem c_X12_takes {l : Launch} {D : va_G} {B : Heap} {G : amG} {I : amI} {L : amL} {p1 : Nat} (hG : Lay G) (hn_p1 : p1 < gN G) (hk_p1 : gK G p1 = 52) (hl_p1 : gL G p1 = 256) (v2 : Int32) (hp : p1 ≠ 65) (hf : fnOk v2) : Fx l D B yX12_takes cX12_takes 4 none 0 [.ref (B.size + 64), .ref (B.size + p1), .int v2] G I L none I (setL L p1 (wr (L p1) 0 256 (fun j => L 65 (17 + 256 * v2.toNatClampNeg + j)))) := by
  refine Mx.of (by decide) rfl rfl (fun z e1 e2 e3 hz => ?_)
  subst e1; subst e2; subst e3
  refine b_X12_takes_0 hz hG hn_p1 hk_p1 hl_p1 ?_
  obtain ⟨f, hf, rfl⟩ := hf
  have ef : (nI f).toNatClampNeg = f := cl_nI (by omega)
  have main := for_up (P := fun i => Wx z 0 0 2 [(0, .ref ((zB z).size + 64)), (1, .ref ((zB z).size + p1)), (2, .int (nI f)), (3, .int (nI i))] [] G I (setL L p1 (wr (L p1) 0 i (fun j => L 65 (17 + 256 * f + j))))) (n := 256) ?_ ?_ (Nat.zero_le _)
  · rw [wr_0, setL_id] at main
    exact main
  · exact b_X12_takes_2 hz hG hn_p1 hk_p1 hl_p1 ⟨fun _ => ⟨rfl, rfl, rfl, by rw [ef]⟩, fun h => absurd (nI_le (a := 256) (b := 256) (Nat.le_refl _) (by decide)) h⟩
  · intro i hi ih
    refine b_X12_takes_2 hz hG hn_p1 hk_p1 hl_p1 ⟨fun h => absurd h (nI_ge (b := 256) hi (by decide)), fun _ => ⟨by rw [fcell]; exact in_nI (by omega) (by decide), in_nI hi (by decide), ?_⟩⟩
    rw [fcell, setL_ss, setL_s, setL_n (Ne.symm hp), cl_nI (by omega), cl_nI (by omega), wr_L0 rfl, nI_1]
    exact ih
set_option maxRecDepth 100000 in
set_option maxHeartbeats 4000000 in
theorem b_X12_startsFrom_0 {z : amZ} {post : amP} {G : amG} {I : amI} {L : amL} (hz : Go z cX12_startsFrom RX12 3 none 0 0 0 post) (hG : Lay G) {v1 : Int32} (h : Wx z 0 0 2 [(0, .ref ((zB z).size + 64)), (1, .int v1), (2, .int 0)] [] G I L) : Wx z 0 0 0 [(0, .ref ((zB z).size + 64)), (1, .int v1)] [] G I L := by
  have hz1 := hz.1
  refine am_iconst (v := 0) hz1 dX12_startsFrom_0 (by decide) ?_
  refine am_istore_n (lv' := [(2, .int 0), (0, .ref ((zB z).size + 64)), (1, .int v1)]) hz1 dX12_startsFrom_1 rfl rfl rfl ?_
  exact am_sub (lv' := [(0, .ref ((zB z).size + 64)), (1, .int v1), (2, .int 0)]) [1, 2, 0] rfl h
set_option maxRecDepth 100000 in
set_option maxHeartbeats 4000000 in
theorem b_X12_startsFrom_2 {z : amZ} {post : amP} {G : amG} {I : amI} {L : amL} (hz : Go z cX12_startsFrom RX12 3 none 0 0 0 post) (hG : Lay G) {v1 : Int32} {v2 : Int32} (h : (((16 : Int32) ≤ v2) → post none G I L) ∧ ((¬ (16 : Int32) ≤ v2) → ((¬ v2 = v1) → vp_in v2 16 ∧ Wx z 0 0 2 [(0, .ref ((zB z).size + 64)), (1, .int v1), (2, .int (v2 + 1))] [] G I (setL L 76 (vp_updL (L 76) v2.toNatClampNeg (0 : Int64)))) ∧ ((v2 = v1) → vp_in v2 16 ∧ Wx z 0 0 2 [(0, .ref ((zB z).size + 64)), (1, .int v1), (2, .int (v2 + 1))] [] G I (setL L 76 (vp_updL (L 76) v2.toNatClampNeg (1 : Int64)))))) : Wx z 0 0 2 [(0, .ref ((zB z).size + 64)), (1, .int v1), (2, .int v2)] [] G I L := by
  have hz1 := hz.1
  refine am_iload_n hz1 dX12_startsFrom_2 2 rfl rfl ?_
  refine am_bipush (v := 16) hz1 dX12_startsFrom_3 (by decide) ?_
  refine am_icmp_ge (tgt := 30) hz1 dX12_startsFrom_5 (by decide) (fun c1 => ?_) (fun c1 => ?_)
  · replace h := h.1 c1
    exact am_return hz dX12_startsFrom_30 h
  · replace h := h.2 c1
    refine am_aload_n hz1 dX12_startsFrom_8 0 rfl rfl ?_
    refine am_getR hz1 fl_X12_47 (ln_64 hG) (lk_64 hG) (lr_64_20 hG) rfl dX12_startsFrom_9 ?_
    refine am_iload_n hz1 dX12_startsFrom_12 2 rfl rfl ?_
    refine am_iload_n hz1 dX12_startsFrom_13 2 rfl rfl ?_
    refine am_iload_n hz1 dX12_startsFrom_14 1 rfl rfl ?_
    refine am_icmp_ne (tgt := 22) hz1 dX12_startsFrom_15 (by decide) (fun c2 => ?_) (fun c2 => ?_)
    · replace h := h.1 c2
      refine am_lconst (v := 0) hz1 dX12_startsFrom_22 (by decide) ?_
      obtain ⟨g3, h⟩ := h
      refine am_last hz1 (ln_76 hG) (lk_76 hG) (by rw [(ll_76 hG)]; exact g3) dX12_startsFrom_23 ?_
      refine am_iinc (v := v2 + 1) (lv' := [(2, .int (v2 + 1)), (0, .ref ((zB z).size + 64)), (1, .int v1)]) hz1 dX12_startsFrom_24 2 rfl rfl rfl rfl ?_
      refine am_goto (tgt := 2) hz1 dX12_startsFrom_27 (by decide) ?_
      exact am_sub (lv' := [(0, .ref ((zB z).size + 64)), (1, .int v1), (2, .int (v2 + 1))]) [1, 2, 0] rfl h
    · replace h := h.2 c2
      refine am_lconst (v := 1) hz1 dX12_startsFrom_18 (by decide) ?_
      refine am_goto (tgt := 23) hz1 dX12_startsFrom_19 (by decide) ?_
      obtain ⟨g4, h⟩ := h
      refine am_last hz1 (ln_76 hG) (lk_76 hG) (by rw [(ll_76 hG)]; exact g4) dX12_startsFrom_23 ?_
      refine am_iinc (v := v2 + 1) (lv' := [(2, .int (v2 + 1)), (0, .ref ((zB z).size + 64)), (1, .int v1)]) hz1 dX12_startsFrom_24 2 rfl rfl rfl rfl ?_
      refine am_goto (tgt := 2) hz1 dX12_startsFrom_27 (by decide) ?_
      exact am_sub (lv' := [(0, .ref ((zB z).size + 64)), (1, .int v1), (2, .int (v2 + 1))]) [1, 2, 0] rfl h
set_option maxRecDepth 100000 in
set_option maxHeartbeats 4000000 in
theorem c_X12_startsFrom {l : Launch} {D : va_G} {B : Heap} {G : amG} {I : amI} {L : amL}  (hG : Lay G)  (v1 : Int32)  : Fx l D B yX12_startsFrom cX12_startsFrom 3 none 0 [.ref (B.size + 64), .int v1] G I L none I (setL L 76 (wr (L 76) 0 16 (fun b => if nI b = v1 then 1 else 0))) := by
  refine Mx.of (by decide) rfl rfl (fun z e1 e2 e3 hz => ?_)
  subst e1; subst e2; subst e3
  refine b_X12_startsFrom_0 hz hG ?_
  have main := for_up (P := fun i => Wx z 0 0 2 [(0, .ref ((zB z).size + 64)), (1, .int v1), (2, .int (nI i))] [] G I (setL L 76 (wr (L 76) 0 i (fun b => if nI b = v1 then 1 else 0)))) (n := 16) ?_ ?_ (Nat.zero_le _)
  · rw [wr_0, setL_id] at main
    exact main
  · exact b_X12_startsFrom_2 hz hG ⟨fun _ => ⟨rfl, rfl, rfl, rfl⟩, fun h => absurd (nI_le (a := 16) (b := 16) (Nat.le_refl _) (by decide)) h⟩
  · intro i hi ih
    refine b_X12_startsFrom_2 hz hG ⟨fun h => absurd h (nI_ge (b := 16) hi (by decide)), fun _ => ⟨fun h => ⟨in_nI hi (by decide), ?_⟩, fun h => ⟨in_nI hi (by decide), ?_⟩⟩⟩
    all_goals
      rw [setL_ss, setL_s, cl_nI (by omega), wr_L0 (by simp [h]), nI_1]
      exact ih
set_option maxRecDepth 100000 in
set_option maxHeartbeats 4000000 in
theorem b_X12_laysDown_0 {z : amZ} {post : amP} {G : amG} {I : amI} {L : amL} (hz : Go z cX12_laysDown RX12 2 none 3 0 0 post) (hG : Lay G)  (h : Wx z 0 0 2 [(0, .ref ((zB z).size + 64)), (1, .int 0)] [] G I L) : Wx z 0 0 0 [(0, .ref ((zB z).size + 64))] [] G I L := by
  have hz1 := hz.1
  refine am_iconst (v := 0) hz1 dX12_laysDown_0 (by decide) ?_
  refine am_istore_n (lv' := [(1, .int 0), (0, .ref ((zB z).size + 64))]) hz1 dX12_laysDown_1 rfl rfl rfl ?_
  exact am_sub (lv' := [(0, .ref ((zB z).size + 64)), (1, .int 0)]) [1, 0] rfl h
set_option maxRecDepth 100000 in
set_option maxHeartbeats 4000000 in
theorem b_X12_laysDown_2 {z : amZ} {post : amP} {G : amG} {I : amI} {L : amL} (hz : Go z cX12_laysDown RX12 2 none 3 0 0 post) (hG : Lay G) {v1 : Int32} (h : (((m_many L) ≤ v1) → post none G I L) ∧ ((¬ (m_many L) ≤ v1) → (mOk L) ∧ vp_in v1 16 ∧ Wx z 0 0 2 [(0, .ref ((zB z).size + 64)), (1, .int (v1 + 1))] [] G (setI I 79 (upd (I 79) v1.toNatClampNeg (m_dn L v1))) L)) : Wx z 0 0 2 [(0, .ref ((zB z).size + 64)), (1, .int v1)] [] G I L := by
  have hz1 := hz.1
  refine am_iload_n hz1 dX12_laysDown_2 1 rfl rfl ?_
  refine am_aload_n hz1 dX12_laysDown_3 0 rfl rfl ?_
  refine am_cVf hz cv_X12_78 [] [.int v1] (c_X12_many hG  ) (ln_64 hG) (lk_64 hG) rfl rfl rfl ⟨Nat.le_refl _, Nat.le_refl _⟩ (Nat.le_of_ble_eq_true rfl) dX12_laysDown_4 ?_
  refine am_icmp_ge (tgt := 27) hz1 dX12_laysDown_7 (by decide) (fun c1 => ?_) (fun c1 => ?_)
  · replace h := h.1 c1
    exact am_return hz dX12_laysDown_27 h
  · replace h := h.2 c1
    refine am_aload_n hz1 dX12_laysDown_10 0 rfl rfl ?_
    refine am_getR hz1 fl_X12_57 (ln_64 hG) (lk_64 hG) (lr_64_23 hG) rfl dX12_laysDown_11 ?_
    refine am_iload_n hz1 dX12_laysDown_14 1 rfl rfl ?_
    refine am_aload_n hz1 dX12_laysDown_15 0 rfl rfl ?_
    refine am_iload_n hz1 dX12_laysDown_16 1 rfl rfl ?_
    obtain ⟨g2, h⟩ := h
    refine am_cVf hz cv_X12_97 [.int v1] [.int v1, .ref ((zB z).size + 79)] (c_X12_down hG v1 g2) (ln_64 hG) (lk_64 hG) rfl rfl rfl ⟨Nat.le_refl _, Nat.le_refl _⟩ (Nat.le_of_ble_eq_true rfl) dX12_laysDown_17 ?_
    obtain ⟨g3, h⟩ := h
    refine am_iast hz1 (ln_79 hG) (lk_79 hG) (by rw [(ll_79 hG)]; exact g3) dX12_laysDown_20 ?_
    refine am_iinc (v := v1 + 1) (lv' := [(1, .int (v1 + 1)), (0, .ref ((zB z).size + 64))]) hz1 dX12_laysDown_21 1 rfl rfl rfl rfl ?_
    refine am_goto (tgt := 2) hz1 dX12_laysDown_24 (by decide) ?_
    exact am_sub (lv' := [(0, .ref ((zB z).size + 64)), (1, .int (v1 + 1))]) [1, 0] rfl h
set_option maxRecDepth 100000 in
set_option maxHeartbeats 4000000 in
theorem c_X12_laysDown {l : Launch} {D : va_G} {B : Heap} {G : amG} {I : amI} {L : amL}  (hG : Lay G)   (hM : mOk L) : Fx l D B yX12_laysDown cX12_laysDown 2 none 3 [.ref (B.size + 64)] G I L none (setI I 79 (wr (I 79) 0 (mN L) (fun a => m_dn L (nI a)))) L := by
  refine Mx.of (by decide) rfl rfl (fun z e1 e2 e3 hz => ?_)
  subst e1; subst e2; subst e3
  refine b_X12_laysDown_0 hz hG ?_
  have hO := hM
  obtain ⟨n, A, hM⟩ := hM
  have h16 := hM.2.1
  have main := for_up (P := fun i => Wx z 0 0 2 [(0, .ref ((zB z).size + 64)), (1, .int (nI i))] [] G (setI I 79 (wr (I 79) 0 i (fun a => m_dn L (nI a)))) L) (n := n) ?_ ?_ (Nat.zero_le _)
  · rw [wr_0, setI_id] at main
    exact main
  · exact b_X12_laysDown_2 hz hG ⟨fun _ => ⟨rfl, rfl, by rw [hM.N], rfl⟩, fun h => absurd (mm_le hM) h⟩
  · intro i hi ih
    refine b_X12_laysDown_2 hz hG ⟨fun h => absurd h (mm_ge hM hi), fun _ => ⟨hO, in16 h16 hi, ?_⟩⟩
    rw [setI_ss, setI_s, cl_nI (by omega), wr_I0 rfl, nI_1]
    exact ih
