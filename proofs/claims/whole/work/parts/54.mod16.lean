/-! THE REFERENCE READS: divisors, parts -/
theorem fl_mono {p : Nat → Bool} {a b : Nat} (h : a ≤ b) : (fl p a).length ≤ (fl p b).length := by
  induction b with
  | zero => rw [show a = 0 by omega]; exact Nat.le_refl _
  | succ b ih =>
    by_cases e : a = b + 1
    · rw [e]; exact Nat.le_refl _
    · refine Nat.le_trans (ih (by omega)) ?_
      rw [fl_s]
      split
      · rw [List.length_append]; omega
      · exact Nat.le_refl _
def rwOk (x n : Int32) : Prop := ∃ r k : Nat, r < 256 ∧ k ≤ 4 ∧ x = nI r ∧ n = nI k
theorem prt_M : ∀ r, r < 256 → ∀ k, k < 4 → m_part (nI r) (nI k) = nI (prt r k) := by decide +kernel
theorem prt_4 {r k : Nat} : prt r k < 4 := Nat.mod_lt _ (by decide)
theorem rowG_n {r n u k : Nat} (h : rowG r n k u = none) : ∀ d, rowG r n (k + d) u = none
  | 0 => h
  | d + 1 => by rw [← Nat.add_assoc, rowG, rowG_n h d]
theorem rowG_le {r n u : Nat} : ∀ k x, rowG r n k u = some x → x ≤ u + k
  | 0, x, h => by cases h; omega
  | k + 1, x, h => by
    rw [rowG] at h
    cases e : rowG r n k u with
    | none => rw [e] at h; cases h
    | some y =>
      rw [e] at h
      have hy := rowG_le k y e
      by_cases g : prt r k ≤ y
      · have h' : (if prt r k = y then some (y + 1) else some y) = some x := by rw [← h]; show _ = (if prt r k ≤ y then (if prt r k = y then some (y + 1) else some y) else none); rw [if_pos g]
        by_cases g2 : prt r k = y
        · rw [if_pos g2] at h'; cases h'; omega
        · rw [if_neg g2] at h'; cases h'; omega
      · have h' : none = some x := by rw [← h]; show _ = (if prt r k ≤ y then (if prt r k = y then some (y + 1) else some y) else none); rw [if_neg g]
        cases h'
set_option maxRecDepth 100000 in
set_option maxHeartbeats 4000000 in
theorem b_X12_isRow_0 {z : amZ} {post : amP} {G : amG} {I : amI} {L : amL} (hz : Go z cX12_isRow RX12 4 (some .boolean) 1 0 0 post) (hG : Lay G) {v0 : Int32} {v1 : Int32} (h : Wx z 0 0 4 [(0, .int v0), (1, .int v1), (2, .int 0), (3, .int 0)] [] G I L) : Wx z 0 0 0 [(0, .int v0), (1, .int v1)] [] G I L := by
  have hz1 := hz.1
  refine am_iconst (v := 0) hz1 dX12_isRow_0 (by decide) ?_
  refine am_istore_n (lv' := [(2, .int 0), (0, .int v0), (1, .int v1)]) hz1 dX12_isRow_1 rfl rfl rfl ?_
  refine am_iconst (v := 0) hz1 dX12_isRow_2 (by decide) ?_
  refine am_istore_n (lv' := [(3, .int 0), (2, .int 0), (0, .int v0), (1, .int v1)]) hz1 dX12_isRow_3 rfl rfl rfl ?_
  exact am_sub (lv' := [(0, .int v0), (1, .int v1), (2, .int 0), (3, .int 0)]) [2, 3, 1, 0] rfl h
set_option maxRecDepth 100000 in
set_option maxHeartbeats 4000000 in
theorem b_X12_isRow_4 {z : amZ} {post : amP} {G : amG} {I : amI} {L : amL} (hz : Go z cX12_isRow RX12 4 (some .boolean) 1 0 0 post) (hG : Lay G) {v0 : Int32} {v1 : Int32} {v2 : Int32} {v3 : Int32} (h : ((v1 ≤ v3) → Wx z 0 0 40 [(0, .int v0), (3, .int v1)] [] G I L) ∧ ((¬ v1 ≤ v3) → (((m_part v0 v3) ≤ v2) → ((¬ (m_part v0 v3) = v2) → Wx z 0 0 4 [(0, .int v0), (1, .int v1), (2, .int v2), (3, .int (v3 + 1))] [] G I L) ∧ (((m_part v0 v3) = v2) → Wx z 0 0 4 [(0, .int v0), (1, .int v1), (2, .int (v2 + 1)), (3, .int (v3 + 1))] [] G I L)) ∧ ((¬ (m_part v0 v3) ≤ v2) → post (some (.int 0)) G I L))) : Wx z 0 0 4 [(0, .int v0), (1, .int v1), (2, .int v2), (3, .int v3)] [] G I L := by
  have hz1 := hz.1
  refine am_iload_n hz1 dX12_isRow_4 3 rfl rfl ?_
  refine am_iload_n hz1 dX12_isRow_5 1 rfl rfl ?_
  refine am_icmp_ge (tgt := 38) hz1 dX12_isRow_6 (by decide) (fun c1 => ?_) (fun c1 => ?_)
  · replace h := h.1 c1
    refine am_iload_n hz1 dX12_isRow_38 1 rfl rfl ?_
    refine am_istore_n (lv' := [(3, .int v1), (0, .int v0), (1, .int v1), (2, .int v2)]) hz1 dX12_isRow_39 rfl rfl rfl ?_
    exact am_sub (lv' := [(0, .int v0), (3, .int v1)]) [1, 0] rfl h
  · replace h := h.2 c1
    refine am_iload_n hz1 dX12_isRow_9 0 rfl rfl ?_
    refine am_iload_n hz1 dX12_isRow_10 3 rfl rfl ?_
    refine am_cSf hz ct_X12_180 [.int v0, .int v3] [] (c_X12_partOf hG v0 v3 ) rfl rfl rfl ⟨Nat.le_refl _, Nat.le_refl _⟩ (Nat.le_of_ble_eq_true rfl) dX12_isRow_11 ?_
    refine am_iload_n hz1 dX12_isRow_14 2 rfl rfl ?_
    refine am_icmp_le (tgt := 20) hz1 dX12_isRow_15 (by decide) (fun c2 => ?_) (fun c2 => ?_)
    · replace h := h.1 c2
      refine am_iload_n hz1 dX12_isRow_20 0 rfl rfl ?_
      refine am_iload_n hz1 dX12_isRow_21 3 rfl rfl ?_
      refine am_cSf hz ct_X12_180 [.int v0, .int v3] [] (c_X12_partOf hG v0 v3 ) rfl rfl rfl ⟨Nat.le_refl _, Nat.le_refl _⟩ (Nat.le_of_ble_eq_true rfl) dX12_isRow_22 ?_
      refine am_iload_n hz1 dX12_isRow_25 2 rfl rfl ?_
      refine am_icmp_ne (tgt := 32) hz1 dX12_isRow_26 (by decide) (fun c3 => ?_) (fun c3 => ?_)
      · replace h := h.1 c3
        refine am_iinc (v := v3 + 1) (lv' := [(3, .int (v3 + 1)), (0, .int v0), (1, .int v1), (2, .int v2)]) hz1 dX12_isRow_32 3 rfl rfl rfl rfl ?_
        refine am_goto (tgt := 4) hz1 dX12_isRow_35 (by decide) ?_
        exact am_sub (lv' := [(0, .int v0), (1, .int v1), (2, .int v2), (3, .int (v3 + 1))]) [1, 2, 3, 0] rfl h
      · replace h := h.2 c3
        refine am_iinc (v := v2 + 1) (lv' := [(2, .int (v2 + 1)), (0, .int v0), (1, .int v1), (3, .int v3)]) hz1 dX12_isRow_29 2 rfl rfl rfl rfl ?_
        refine am_iinc (v := v3 + 1) (lv' := [(3, .int (v3 + 1)), (2, .int (v2 + 1)), (0, .int v0), (1, .int v1)]) hz1 dX12_isRow_32 3 rfl rfl rfl rfl ?_
        refine am_goto (tgt := 4) hz1 dX12_isRow_35 (by decide) ?_
        exact am_sub (lv' := [(0, .int v0), (1, .int v1), (2, .int (v2 + 1)), (3, .int (v3 + 1))]) [2, 3, 1, 0] rfl h
    · replace h := h.2 c2
      refine am_iconst (v := 0) hz1 dX12_isRow_18 (by decide) ?_
      exact am_zreturn hz (by decide) dX12_isRow_19 h
set_option maxRecDepth 100000 in
set_option maxHeartbeats 4000000 in
theorem b_X12_isRow_40 {z : amZ} {post : amP} {G : amG} {I : amI} {L : amL} (hz : Go z cX12_isRow RX12 4 (some .boolean) 1 0 0 post) (hG : Lay G) {v0 : Int32} {v3 : Int32} (h : (((4 : Int32) ≤ v3) → post (some (.int 1)) G I L) ∧ ((¬ (4 : Int32) ≤ v3) → (((m_part v0 v3) = 0) → Wx z 0 0 40 [(0, .int v0), (3, .int (v3 + 1))] [] G I L) ∧ ((¬ (m_part v0 v3) = 0) → post (some (.int 0)) G I L))) : Wx z 0 0 40 [(0, .int v0), (3, .int v3)] [] G I L := by
  have hz1 := hz.1
  refine am_iload_n hz1 dX12_isRow_40 1 rfl rfl ?_
  refine am_iconst (v := 4) hz1 dX12_isRow_41 (by decide) ?_
  refine am_icmp_ge (tgt := 61) hz1 dX12_isRow_42 (by decide) (fun c1 => ?_) (fun c1 => ?_)
  · replace h := h.1 c1
    refine am_iconst (v := 1) hz1 dX12_isRow_61 (by decide) ?_
    exact am_zreturn hz (by decide) dX12_isRow_62 h
  · replace h := h.2 c1
    refine am_iload_n hz1 dX12_isRow_45 0 rfl rfl ?_
    refine am_iload_n hz1 dX12_isRow_46 1 rfl rfl ?_
    refine am_cSf hz ct_X12_180 [.int v0, .int v3] [] (c_X12_partOf hG v0 v3 ) rfl rfl rfl ⟨Nat.le_refl _, Nat.le_refl _⟩ (Nat.le_of_ble_eq_true rfl) dX12_isRow_47 ?_
    refine am_if_eq (tgt := 55) hz1 dX12_isRow_50 (by decide) (fun c2 => ?_) (fun c2 => ?_)
    · replace h := h.1 c2
      refine am_iinc (v := v3 + 1) (lv' := [(3, .int (v3 + 1)), (0, .int v0)]) hz1 dX12_isRow_55 1 rfl rfl rfl rfl ?_
      refine am_goto (tgt := 40) hz1 dX12_isRow_58 (by decide) ?_
      exact am_sub (lv' := [(0, .int v0), (3, .int (v3 + 1))]) [1, 0] rfl h
    · replace h := h.2 c2
      refine am_iconst (v := 0) hz1 dX12_isRow_53 (by decide) ?_
      exact am_zreturn hz (by decide) dX12_isRow_54 h
set_option maxRecDepth 100000 in
set_option maxHeartbeats 4000000 in
theorem c_X12_isRow {l : Launch} {D : va_G} {B : Heap} {G : amG} {I : amI} {L : amL}  (hG : Lay G)  (v0 : Int32) (v1 : Int32) (hr : rwOk v0 v1) : Fx l D B yX12_isRow cX12_isRow 4 (some .boolean) 1 [.int v0, .int v1] G I L (some (.int (bI (rowB v1.toNatClampNeg v0.toNatClampNeg)))) I L := by
  refine Mx.of (by decide) rfl rfl (fun z e1 e2 e3 hz => ?_)
  subst e1; subst e2; subst e3
  refine b_X12_isRow_0 hz hG ?_
  obtain ⟨r, n, hr, hn, rfl, rfl⟩ := hr
  have er : (nI r).toNatClampNeg = r := cl_nI (by omega)
  have en : (nI n).toNatClampNeg = n := cl_nI (by omega)
  have rest : (rowG r n n 0).isSome = true → Wx z 0 0 40 [(0, .int (nI r)), (3, .int (nI n))] [] G I L := by
    intro hs
    have hB : rowB n r = scan (fun k => !decide (prt r k = 0)) (fun _ => false) true (4 - n) n := by rw [rowB, hs, Bool.true_and]
    have main : scan (fun k => !decide (prt r k = 0)) (fun _ => false) true (4 - n) n = rowB n r → Wx z 0 0 40 [(0, .int (nI r)), (3, .int (nI n))] [] G I L := by
      refine for_up (P := fun k => scan (fun k => !decide (prt r k = 0)) (fun _ => false) true (4 - k) k = rowB n r → Wx z 0 0 40 [(0, .int (nI r)), (3, .int (nI k))] [] G I L) (n := 4) ?_ ?_ hn
      · intro e
        refine b_X12_isRow_40 hz hG ⟨fun _ => ?_, fun w => absurd (nI_le (a := 4) (b := 4) (Nat.le_refl _) (by decide)) w⟩
        rw [er, en, ← e]; exact ⟨rfl, rfl, rfl, rfl⟩
      · intro k hk ih e
        rw [scan_s hk] at e
        refine b_X12_isRow_40 hz hG ⟨fun w => absurd w (nI_ge (b := 4) hk (by decide)), fun _ => ?_⟩
        rw [prt_M r hr k hk, nI_1]
        refine ⟨fun w => ?_, fun w => ?_⟩
        · have hp : prt r k = 0 := (nI_eq (b := 0) (by have := prt_4 (r := r) (k := k); omega) (by decide)).mp w
          rw [if_neg (by rw [decide_eq_true hp]; decide)] at e
          exact ih e
        · have hp : ¬ prt r k = 0 := fun g => w (by rw [g]; rfl)
          rw [if_pos (by rw [decide_eq_false hp]; rfl)] at e
          rw [er, en, ← e]; exact ⟨rfl, rfl, rfl, rfl⟩
    exact main hB.symm
  have main : ∀ u, rowG r n 0 0 = some u → Wx z 0 0 4 [(0, .int (nI r)), (1, .int (nI n)), (2, .int (nI u)), (3, .int (nI 0))] [] G I L := by
    refine for_up (P := fun k => ∀ u, rowG r n k 0 = some u → Wx z 0 0 4 [(0, .int (nI r)), (1, .int (nI n)), (2, .int (nI u)), (3, .int (nI k))] [] G I L) (n := n) ?_ ?_ (Nat.zero_le _)
    · intro u hu
      exact b_X12_isRow_4 hz hG ⟨fun _ => rest (by rw [hu]; rfl), fun w => absurd (nI_le (Nat.le_refl _) (by omega)) w⟩
    · intro k hk ih u hu
      have hu4 := rowG_le k u hu
      have hp4 := prt_4 (r := r) (k := k)
      have hstep : rowG r n (k + 1) 0 = if prt r k ≤ u then (if prt r k = u then some (u + 1) else some u) else none := by rw [rowG, hu]
      refine b_X12_isRow_4 hz hG ⟨fun w => absurd w (nI_ge hk (by omega)), fun _ => ?_⟩
      rw [prt_M r hr k (by omega), nI_1 k, nI_1 u, nI_leI (by omega) (by omega), nI_eq (by omega) (by omega)]
      refine ⟨fun w => ⟨fun g => ?_, fun g => ?_⟩, fun w => ?_⟩
      · exact ih u (by rw [hstep, if_pos w, if_neg g])
      · exact ih (u + 1) (by rw [hstep, if_pos w, if_pos g])
      · rw [if_neg w] at hstep
        have := rowG_n hstep (n - (k + 1))
        rw [show k + 1 + (n - (k + 1)) = n by omega] at this
        rw [er, en, rowB, this]; exact ⟨rfl, rfl, rfl, rfl⟩
  exact main 0 rfl
set_option maxRecDepth 100000 in
set_option maxHeartbeats 4000000 in
theorem b_X12_isFiner_0 {z : amZ} {post : amP} {G : amG} {I : amI} {L : amL} (hz : Go z cX12_isFiner RX12 5 (some .boolean) 1 0 0 post) (hG : Lay G) {v0 : Int32} {v1 : Int32} {v2 : Int32} (h : Wx z 0 0 2 [(0, .int v0), (1, .int v1), (2, .int v2), (3, .int 0)] [] G I L) : Wx z 0 0 0 [(0, .int v0), (1, .int v1), (2, .int v2)] [] G I L := by
  have hz1 := hz.1
  refine am_iconst (v := 0) hz1 dX12_isFiner_0 (by decide) ?_
  refine am_istore_n (lv' := [(3, .int 0), (0, .int v0), (1, .int v1), (2, .int v2)]) hz1 dX12_isFiner_1 rfl rfl rfl ?_
  exact am_sub (lv' := [(0, .int v0), (1, .int v1), (2, .int v2), (3, .int 0)]) [1, 2, 3, 0] rfl h
set_option maxRecDepth 100000 in
set_option maxHeartbeats 4000000 in
theorem b_X12_isFiner_2 {z : amZ} {post : amP} {G : amG} {I : amI} {L : amL} (hz : Go z cX12_isFiner RX12 5 (some .boolean) 1 0 0 post) (hG : Lay G) {v0 : Int32} {v1 : Int32} {v2 : Int32} {v3 : Int32} (h : ((v2 ≤ v3) → post (some (.int 1)) G I L) ∧ ((¬ v2 ≤ v3) → Wx z 0 0 10 [(0, .int v0), (1, .int v1), (2, .int v2), (3, .int v3), (4, .int 0)] [] G I L)) : Wx z 0 0 2 [(0, .int v0), (1, .int v1), (2, .int v2), (3, .int v3)] [] G I L := by
  have hz1 := hz.1
  refine am_iload_n hz1 dX12_isFiner_2 3 rfl rfl ?_
  refine am_iload_n hz1 dX12_isFiner_3 2 rfl rfl ?_
  refine am_icmp_ge (tgt := 58) hz1 dX12_isFiner_4 (by decide) (fun c1 => ?_) (fun c1 => ?_)
  · replace h := h.1 c1
    refine am_iconst (v := 1) hz1 dX12_isFiner_58 (by decide) ?_
    exact am_zreturn hz (by decide) dX12_isFiner_59 h
  · replace h := h.2 c1
    refine am_iconst (v := 0) hz1 dX12_isFiner_7 (by decide) ?_
    refine am_istore (lv' := [(4, .int 0), (0, .int v0), (1, .int v1), (2, .int v2), (3, .int v3)]) hz1 dX12_isFiner_8 rfl rfl ?_
    exact am_sub (lv' := [(0, .int v0), (1, .int v1), (2, .int v2), (3, .int v3), (4, .int 0)]) [1, 2, 3, 4, 0] rfl h
set_option maxRecDepth 100000 in
set_option maxHeartbeats 4000000 in
theorem b_X12_isFiner_10 {z : amZ} {post : amP} {G : amG} {I : amI} {L : amL} (hz : Go z cX12_isFiner RX12 5 (some .boolean) 1 0 0 post) (hG : Lay G) {v0 : Int32} {v1 : Int32} {v2 : Int32} {v3 : Int32} {v4 : Int32} (h : ((v3 ≤ v4) → Wx z 0 0 2 [(0, .int v0), (1, .int v1), (2, .int v2), (3, .int (v3 + 1))] [] G I L) ∧ ((¬ v3 ≤ v4) → ((¬ (m_part v0 v3) = (m_part v0 v4)) → Wx z 0 0 10 [(0, .int v0), (1, .int v1), (2, .int v2), (3, .int v3), (4, .int (v4 + 1))] [] G I L) ∧ (((m_part v0 v3) = (m_part v0 v4)) → (((m_part v1 v3) = (m_part v1 v4)) → Wx z 0 0 10 [(0, .int v0), (1, .int v1), (2, .int v2), (3, .int v3), (4, .int (v4 + 1))] [] G I L) ∧ ((¬ (m_part v1 v3) = (m_part v1 v4)) → post (some (.int 0)) G I L)))) : Wx z 0 0 10 [(0, .int v0), (1, .int v1), (2, .int v2), (3, .int v3), (4, .int v4)] [] G I L := by
  have hz1 := hz.1
  refine am_iload hz1 dX12_isFiner_10 4 rfl ?_
  refine am_iload_n hz1 dX12_isFiner_12 3 rfl rfl ?_
  refine am_icmp_ge (tgt := 52) hz1 dX12_isFiner_13 (by decide) (fun c1 => ?_) (fun c1 => ?_)
  · replace h := h.1 c1
    refine am_iinc (v := v3 + 1) (lv' := [(3, .int (v3 + 1)), (0, .int v0), (1, .int v1), (2, .int v2), (4, .int v4)]) hz1 dX12_isFiner_52 3 rfl rfl rfl rfl ?_
    refine am_goto (tgt := 2) hz1 dX12_isFiner_55 (by decide) ?_
    exact am_sub (lv' := [(0, .int v0), (1, .int v1), (2, .int v2), (3, .int (v3 + 1))]) [1, 2, 3, 0] rfl h
  · replace h := h.2 c1
    refine am_iload_n hz1 dX12_isFiner_16 0 rfl rfl ?_
    refine am_iload_n hz1 dX12_isFiner_17 3 rfl rfl ?_
    refine am_cSf hz ct_X12_180 [.int v0, .int v3] [] (c_X12_partOf hG v0 v3 ) rfl rfl rfl ⟨Nat.le_refl _, Nat.le_refl _⟩ (Nat.le_of_ble_eq_true rfl) dX12_isFiner_18 ?_
    refine am_iload_n hz1 dX12_isFiner_21 0 rfl rfl ?_
    refine am_iload hz1 dX12_isFiner_22 4 rfl ?_
    refine am_cSf hz ct_X12_180 [.int v0, .int v4] [.int (m_part v0 v3)] (c_X12_partOf hG v0 v4 ) rfl rfl rfl ⟨Nat.le_refl _, Nat.le_refl _⟩ (Nat.le_of_ble_eq_true rfl) dX12_isFiner_24 ?_
    refine am_icmp_ne (tgt := 46) hz1 dX12_isFiner_27 (by decide) (fun c2 => ?_) (fun c2 => ?_)
    · replace h := h.1 c2
      refine am_iinc (v := v4 + 1) (lv' := [(4, .int (v4 + 1)), (0, .int v0), (1, .int v1), (2, .int v2), (3, .int v3)]) hz1 dX12_isFiner_46 4 rfl rfl rfl rfl ?_
      refine am_goto (tgt := 10) hz1 dX12_isFiner_49 (by decide) ?_
      exact am_sub (lv' := [(0, .int v0), (1, .int v1), (2, .int v2), (3, .int v3), (4, .int (v4 + 1))]) [1, 2, 3, 4, 0] rfl h
    · replace h := h.2 c2
      refine am_iload_n hz1 dX12_isFiner_30 1 rfl rfl ?_
      refine am_iload_n hz1 dX12_isFiner_31 3 rfl rfl ?_
      refine am_cSf hz ct_X12_180 [.int v1, .int v3] [] (c_X12_partOf hG v1 v3 ) rfl rfl rfl ⟨Nat.le_refl _, Nat.le_refl _⟩ (Nat.le_of_ble_eq_true rfl) dX12_isFiner_32 ?_
      refine am_iload_n hz1 dX12_isFiner_35 1 rfl rfl ?_
      refine am_iload hz1 dX12_isFiner_36 4 rfl ?_
      refine am_cSf hz ct_X12_180 [.int v1, .int v4] [.int (m_part v1 v3)] (c_X12_partOf hG v1 v4 ) rfl rfl rfl ⟨Nat.le_refl _, Nat.le_refl _⟩ (Nat.le_of_ble_eq_true rfl) dX12_isFiner_38 ?_
      refine am_icmp_eq (tgt := 46) hz1 dX12_isFiner_41 (by decide) (fun c3 => ?_) (fun c3 => ?_)
      · replace h := h.1 c3
        refine am_iinc (v := v4 + 1) (lv' := [(4, .int (v4 + 1)), (0, .int v0), (1, .int v1), (2, .int v2), (3, .int v3)]) hz1 dX12_isFiner_46 4 rfl rfl rfl rfl ?_
        refine am_goto (tgt := 10) hz1 dX12_isFiner_49 (by decide) ?_
        exact am_sub (lv' := [(0, .int v0), (1, .int v1), (2, .int v2), (3, .int v3), (4, .int (v4 + 1))]) [1, 2, 3, 4, 0] rfl h
      · replace h := h.2 c3
        refine am_iconst (v := 0) hz1 dX12_isFiner_44 (by decide) ?_
        exact am_zreturn hz (by decide) dX12_isFiner_45 h
set_option maxRecDepth 100000 in
set_option maxHeartbeats 4000000 in
theorem c_X12_isFiner {l : Launch} {D : va_G} {B : Heap} {G : amG} {I : amI} {L : amL}  (hG : Lay G)  (v0 : Int32) (v1 : Int32) (v2 : Int32) (h0 : rwOk v0 v2) (h1 : rwOk v1 v2) : Fx l D B yX12_isFiner cX12_isFiner 5 (some .boolean) 1 [.int v0, .int v1, .int v2] G I L (some (.int (bI (finB v2.toNatClampNeg v0.toNatClampNeg v1.toNatClampNeg)))) I L := by
  refine Mx.of (by decide) rfl rfl (fun z e1 e2 e3 hz => ?_)
  subst e1; subst e2; subst e3
  refine b_X12_isFiner_0 hz hG ?_
  obtain ⟨x, n, hx, hn, rfl, rfl⟩ := h0
  obtain ⟨y, n', hy, hn', rfl, e⟩ := h1
  have ex : (nI x).toNatClampNeg = x := cl_nI (by omega)
  have ey : (nI y).toNatClampNeg = y := cl_nI (by omega)
  have en : (nI n).toNatClampNeg = n := cl_nI (by omega)
  have eqp : ∀ {r k i}, r < 256 → k < 4 → i < 4 → (m_part (nI r) (nI k) = m_part (nI r) (nI i) ↔ prt r k = prt r i) := by
    intro r k i hr hk hi
    rw [prt_M r hr k hk, prt_M r hr i hi, nI_eq (by have := prt_4 (r := r) (k := k); omega) (by have := prt_4 (r := r) (k := i); omega)]
  have main : scan (fun k => scan (fun i => decide (prt x k = prt x i) && !decide (prt y k = prt y i)) (fun _ => true) false k 0) (fun _ => false) true (n - 0) 0 = finB n x y → Wx z 0 0 2 [(0, .int (nI x)), (1, .int (nI y)), (2, .int (nI n)), (3, .int (nI 0))] [] G I L := by
    refine for_up (P := fun k => scan (fun k => scan (fun i => decide (prt x k = prt x i) && !decide (prt y k = prt y i)) (fun _ => true) false k 0) (fun _ => false) true (n - k) k = finB n x y → Wx z 0 0 2 [(0, .int (nI x)), (1, .int (nI y)), (2, .int (nI n)), (3, .int (nI k))] [] G I L) (n := n) ?_ ?_ (Nat.zero_le _)
    · intro e
      refine b_X12_isFiner_2 hz hG ⟨fun _ => ?_, fun w => absurd (nI_le (Nat.le_refl _) (by omega)) w⟩
      rw [scan_0] at e
      rw [ex, ey, en, ← e]; exact ⟨rfl, rfl, rfl, rfl⟩
    · intro k hk ih e
      rw [scan_s hk] at e
      refine b_X12_isFiner_2 hz hG ⟨fun w => absurd w (nI_ge hk (by omega)), fun _ => ?_⟩
      generalize hin : scan (fun i => decide (prt x k = prt x i) && !decide (prt y k = prt y i)) (fun _ => true) false k 0 = c at e
      have inner : scan (fun i => decide (prt x k = prt x i) && !decide (prt y k = prt y i)) (fun _ => true) false (k - 0) 0 = c → Wx z 0 0 10 [(0, .int (nI x)), (1, .int (nI y)), (2, .int (nI n)), (3, .int (nI k)), (4, .int (nI 0))] [] G I L := by
        refine for_up (P := fun i => scan (fun i => decide (prt x k = prt x i) && !decide (prt y k = prt y i)) (fun _ => true) false (k - i) i = c → Wx z 0 0 10 [(0, .int (nI x)), (1, .int (nI y)), (2, .int (nI n)), (3, .int (nI k)), (4, .int (nI i))] [] G I L) (n := k) ?_ ?_ (Nat.zero_le _)
        · intro e2
          rw [scan_0] at e2
          refine b_X12_isFiner_10 hz hG ⟨fun _ => ?_, fun w => absurd (nI_le (Nat.le_refl _) (by omega)) w⟩
          rw [nI_1]
          exact ih (by rw [← e, ← e2, if_neg (by decide)])
        · intro i hi ih2 e2
          rw [scan_s hi] at e2
          refine b_X12_isFiner_10 hz hG ⟨fun w => absurd w (nI_ge hi (by omega)), fun _ => ?_⟩
          rw [eqp hx (by omega) (by omega), eqp hy (by omega) (by omega), nI_1]
          refine ⟨fun w => ?_, fun w => ⟨fun g => ?_, fun g => ?_⟩⟩
          · exact ih2 (by rw [← e2, if_neg (by rw [decide_eq_false w]; simp)])
          · exact ih2 (by rw [← e2, if_neg (by rw [decide_eq_true g]; simp)])
          · rw [if_pos (by rw [decide_eq_true w, decide_eq_false g]; rfl)] at e2
            rw [← e2, if_pos rfl] at e
            rw [ex, ey, en, ← e]; exact ⟨rfl, rfl, rfl, rfl⟩
      exact inner hin
  exact main rfl
set_option maxRecDepth 100000 in
set_option maxHeartbeats 4000000 in
theorem b_X12_readsDivisors_0 {z : amZ} {post : amP} {G : amG} {I : amI} {L : amL} (hz : Go z cX12_readsDivisors RX12 4 (some .boolean) 3 0 0 post) (hG : Lay G)  (h : ∃ (dq1 : Nat) (postq1 : amP), Nat.ble (dq1 + 1) 3 = true ∧ Mx (zL z) (zD z) (zB z) yX12_readsNumber cX12_readsNumber 5 (some .boolean) dq1 0 0 [.ref ((zB z).size + 64), .int 1, .int 999] G (setI I 64 (upd (I 64) 8 ((I 64 8) + (8 : Int32)))) L postq1 ∧ ∀ (roq1 : Option Value) (Gq1 : amG) (Iq1 : amI) (Lq1 : amL), postq1 roq1 Gq1 Iq1 Lq1 → ∃ (rq1 : Int32), roq1 = some (.int rq1) ∧ Lay Gq1 ∧ ((¬ rq1 = 0) → Wx z 0 0 28 [(0, .ref ((zB z).size + 64)), (1, .int 0), (2, .int 1)] [] Gq1 Iq1 Lq1) ∧ ((rq1 = 0) → post (some (.int 0)) Gq1 Iq1 Lq1)) : Wx z 0 0 0 [(0, .ref ((zB z).size + 64))] [] G I L := by
  have hz1 := hz.1
  refine am_aload_n hz1 dX12_readsDivisors_0 0 rfl rfl ?_
  refine am_dup hz1 dX12_readsDivisors_1 rfl ?_
  refine am_getI hz1 fl_X12_133 (ln_64 hG) (lk_64 hG) rfl dX12_readsDivisors_2 ?_
  refine am_bipush (v := 8) hz1 dX12_readsDivisors_5 (by decide) ?_
  refine am_iadd hz1 dX12_readsDivisors_7 ?_
  refine am_putI hz1 fl_X12_133 (ln_64 hG) (lk_64 hG) rfl rfl (fun _ => rfl) dX12_readsDivisors_8 ?_
  refine am_aload_n hz1 dX12_readsDivisors_11 0 rfl rfl ?_
  refine am_iconst (v := 1) hz1 dX12_readsDivisors_12 (by decide) ?_
  refine am_sipush (v := 999) hz1 dX12_readsDivisors_13 (by decide) ?_
  obtain ⟨dq1, postq1, hdq1, hMq1, h⟩ := h
  refine am_callV hz1 cv_X12_173 [.int 1, .int 999] [] hMq1 (ln_64 hG) (lk_64 hG) rfl rfl (hz.fr hdq1) (hz.lo hdq1) (by rw [hz.2.1]; exact ⟨Nat.le_refl _, Nat.le_refl _⟩) (Nat.le_of_ble_eq_true rfl) dX12_readsDivisors_16 (fun roq1 Gq1 Iq1 Lq1 hpq1 => ?_)
  obtain ⟨rq1, rfl, hGq1, h⟩ := h roq1 Gq1 Iq1 Lq1 hpq1
  refine am_if_ne (tgt := 24) hz1 dX12_readsDivisors_19 (by decide) (fun c2 => ?_) (fun c2 => ?_)
  · replace h := h.1 c2
    refine am_iconst (v := 0) hz1 dX12_readsDivisors_24 (by decide) ?_
    refine am_istore_n (lv' := [(1, .int 0), (0, .ref ((zB z).size + 64))]) hz1 dX12_readsDivisors_25 rfl rfl rfl ?_
    refine am_iconst (v := 1) hz1 dX12_readsDivisors_26 (by decide) ?_
    refine am_istore_n (lv' := [(2, .int 1), (1, .int 0), (0, .ref ((zB z).size + 64))]) hz1 dX12_readsDivisors_27 rfl rfl rfl ?_
    exact am_sub (lv' := [(0, .ref ((zB z).size + 64)), (1, .int 0), (2, .int 1)]) [2, 1, 0] rfl h
  · replace h := h.2 c2
    refine am_iconst (v := 0) hz1 dX12_readsDivisors_22 (by decide) ?_
    exact am_zreturn hz (by decide) dX12_readsDivisors_23 h
set_option maxRecDepth 100000 in
set_option maxHeartbeats 4000000 in
theorem b_X12_readsDivisors_28 {z : amZ} {post : amP} {G : amG} {I : amI} {L : amL} (hz : Go z cX12_readsDivisors RX12 4 (some .boolean) 3 0 0 post) (hG : Lay G) {v1 : Int32} {v2 : Int32} (h : (((I 64 10) < v2) → Wx z 0 0 87 [(0, .ref ((zB z).size + 64)), (1, .int v1), (2, .int 0)] [] G (setI (setI I 64 (upd (I 64) 12 v1)) 70 (wr (I 70) 0 16 (m_al v1))) L) ∧ ((¬ (I 64 10) < v2) → ¬ v2 = 0 ∧ ((((I 64 10) - (I 64 10) / v2 * v2) = 0) → ((¬ v1 = (16 : Int32)) → vp_in v1 16 ∧ Wx z 0 0 28 [(0, .ref ((zB z).size + 64)), (1, .int (v1 + 1)), (2, .int (v2 + 1))] [] G (setI I 71 (upd (I 71) v1.toNatClampNeg v2)) L) ∧ ((v1 = (16 : Int32)) → post (some (.int (bI (false)))) G (setI I 64 (upd (I 64) 9 (8 * (I 64 11) + (2 : Int32)))) L)) ∧ ((¬ ((I 64 10) - (I 64 10) / v2 * v2) = 0) → Wx z 0 0 28 [(0, .ref ((zB z).size + 64)), (1, .int v1), (2, .int (v2 + 1))] [] G I L))) : Wx z 0 0 28 [(0, .ref ((zB z).size + 64)), (1, .int v1), (2, .int v2)] [] G I L := by
  have hz1 := hz.1
  refine am_iload_n hz1 dX12_readsDivisors_28 2 rfl rfl ?_
  refine am_aload_n hz1 dX12_readsDivisors_29 0 rfl rfl ?_
  refine am_getI hz1 fl_X12_167 (ln_64 hG) (lk_64 hG) rfl dX12_readsDivisors_30 ?_
  refine am_icmp_gt (tgt := 80) hz1 dX12_readsDivisors_33 (by decide) (fun c1 => ?_) (fun c1 => ?_)
  · replace h := h.1 c1
    refine am_aload_n hz1 dX12_readsDivisors_80 0 rfl rfl ?_
    refine am_iload_n hz1 dX12_readsDivisors_81 1 rfl rfl ?_
    refine am_cVf hz cv_X12_176 [.int v1] [] (c_X12_alone hG v1 ) (ln_64 hG) (lk_64 hG) rfl rfl rfl ⟨Nat.le_refl _, Nat.le_refl _⟩ (Nat.le_of_ble_eq_true rfl) dX12_readsDivisors_82 ?_
    refine am_iconst (v := 0) hz1 dX12_readsDivisors_85 (by decide) ?_
    refine am_istore_n (lv' := [(2, .int 0), (0, .ref ((zB z).size + 64)), (1, .int v1)]) hz1 dX12_readsDivisors_86 rfl rfl rfl ?_
    exact am_sub (lv' := [(0, .ref ((zB z).size + 64)), (1, .int v1), (2, .int 0)]) [1, 2, 0] rfl h
  · replace h := h.2 c1
    refine am_aload_n hz1 dX12_readsDivisors_36 0 rfl rfl ?_
    refine am_getI hz1 fl_X12_167 (ln_64 hG) (lk_64 hG) rfl dX12_readsDivisors_37 ?_
    refine am_iload_n hz1 dX12_readsDivisors_40 2 rfl rfl ?_
    obtain ⟨g2, h⟩ := h
    refine am_irem hz1 dX12_readsDivisors_41 g2 ?_
    refine am_if_eq (tgt := 48) hz1 dX12_readsDivisors_42 (by decide) (fun c3 => ?_) (fun c3 => ?_)
    · replace h := h.1 c3
      refine am_iload_n hz1 dX12_readsDivisors_48 1 rfl rfl ?_
      refine am_bipush (v := 16) hz1 dX12_readsDivisors_49 (by decide) ?_
      refine am_icmp_ne (tgt := 64) hz1 dX12_readsDivisors_51 (by decide) (fun c4 => ?_) (fun c4 => ?_)
      · replace h := h.1 c4
        refine am_aload_n hz1 dX12_readsDivisors_64 0 rfl rfl ?_
        refine am_getR hz1 fl_X12_32 (ln_64 hG) (lk_64 hG) (lr_64_14 hG) rfl dX12_readsDivisors_65 ?_
        refine am_iload_n hz1 dX12_readsDivisors_68 1 rfl rfl ?_
        refine am_iload_n hz1 dX12_readsDivisors_69 2 rfl rfl ?_
        obtain ⟨g5, h⟩ := h
        refine am_iast hz1 (ln_71 hG) (lk_71 hG) (by rw [(ll_71 hG)]; exact g5) dX12_readsDivisors_70 ?_
        refine am_iinc (v := v1 + 1) (lv' := [(1, .int (v1 + 1)), (0, .ref ((zB z).size + 64)), (2, .int v2)]) hz1 dX12_readsDivisors_71 1 rfl rfl rfl rfl ?_
        refine am_iinc (v := v2 + 1) (lv' := [(2, .int (v2 + 1)), (1, .int (v1 + 1)), (0, .ref ((zB z).size + 64))]) hz1 dX12_readsDivisors_74 2 rfl rfl rfl rfl ?_
        refine am_goto (tgt := 28) hz1 dX12_readsDivisors_77 (by decide) ?_
        exact am_sub (lv' := [(0, .ref ((zB z).size + 64)), (1, .int (v1 + 1)), (2, .int (v2 + 1))]) [2, 1, 0] rfl h
      · replace h := h.2 c4
        refine am_aload_n hz1 dX12_readsDivisors_54 0 rfl rfl ?_
        refine am_iconst (v := 2) hz1 dX12_readsDivisors_55 (by decide) ?_
        refine am_aload_n hz1 dX12_readsDivisors_56 0 rfl rfl ?_
        refine am_getI hz1 fl_X12_157 (ln_64 hG) (lk_64 hG) rfl dX12_readsDivisors_57 ?_
        refine am_cVf hz cv_X12_164 [.int 2, .int (I 64 11)] [] (c_X12_fails hG (2 : Int32) (I 64 11) ) (ln_64 hG) (lk_64 hG) rfl rfl rfl ⟨Nat.le_refl _, Nat.le_refl _⟩ (Nat.le_of_ble_eq_true rfl) dX12_readsDivisors_60 ?_
        exact am_zreturn hz (bI_01 _) dX12_readsDivisors_63 h
    · replace h := h.2 c3
      refine am_goto (tgt := 74) hz1 dX12_readsDivisors_45 (by decide) ?_
      refine am_iinc (v := v2 + 1) (lv' := [(2, .int (v2 + 1)), (0, .ref ((zB z).size + 64)), (1, .int v1)]) hz1 dX12_readsDivisors_74 2 rfl rfl rfl rfl ?_
      refine am_goto (tgt := 28) hz1 dX12_readsDivisors_77 (by decide) ?_
      exact am_sub (lv' := [(0, .ref ((zB z).size + 64)), (1, .int v1), (2, .int (v2 + 1))]) [1, 2, 0] rfl h
set_option maxRecDepth 100000 in
set_option maxHeartbeats 4000000 in
theorem b_X12_readsDivisors_87 {z : amZ} {post : amP} {G : amG} {I : amI} {L : amL} (hz : Go z cX12_readsDivisors RX12 4 (some .boolean) 3 0 0 post) (hG : Lay G) {v1 : Int32} {v2 : Int32} (h : ((v1 ≤ v2) → post (some (.int 1)) G I L) ∧ ((¬ v1 ≤ v2) → Wx z 0 0 94 [(0, .ref ((zB z).size + 64)), (1, .int v1), (2, .int v2), (3, .int 0)] [] G I L)) : Wx z 0 0 87 [(0, .ref ((zB z).size + 64)), (1, .int v1), (2, .int v2)] [] G I L := by
  have hz1 := hz.1
  refine am_iload_n hz1 dX12_readsDivisors_87 2 rfl rfl ?_
  refine am_iload_n hz1 dX12_readsDivisors_88 1 rfl rfl ?_
  refine am_icmp_ge (tgt := 139) hz1 dX12_readsDivisors_89 (by decide) (fun c1 => ?_) (fun c1 => ?_)
  · replace h := h.1 c1
    refine am_iconst (v := 1) hz1 dX12_readsDivisors_139 (by decide) ?_
    exact am_zreturn hz (by decide) dX12_readsDivisors_140 h
  · replace h := h.2 c1
    refine am_iconst (v := 0) hz1 dX12_readsDivisors_92 (by decide) ?_
    refine am_istore_n (lv' := [(3, .int 0), (0, .ref ((zB z).size + 64)), (1, .int v1), (2, .int v2)]) hz1 dX12_readsDivisors_93 rfl rfl rfl ?_
    exact am_sub (lv' := [(0, .ref ((zB z).size + 64)), (1, .int v1), (2, .int v2), (3, .int 0)]) [1, 2, 3, 0] rfl h
set_option maxRecDepth 100000 in
set_option maxHeartbeats 4000000 in
theorem b_X12_readsDivisors_94 {z : amZ} {post : amP} {G : amG} {I : amI} {L : amL} (hz : Go z cX12_readsDivisors RX12 4 (some .boolean) 3 0 0 post) (hG : Lay G) {v1 : Int32} {v2 : Int32} {v3 : Int32} (h : ((v1 ≤ v3) → Wx z 0 0 87 [(0, .ref ((zB z).size + 64)), (1, .int v1), (2, .int (v2 + 1))] [] G I L) ∧ ((¬ v1 ≤ v3) → vp_in v3 16 ∧ vp_in v2 16 ∧ ¬ (I 71 v2.toNatClampNeg) = 0 ∧ ((¬ ((I 71 v3.toNatClampNeg) - (I 71 v3.toNatClampNeg) / (I 71 v2.toNatClampNeg) * (I 71 v2.toNatClampNeg)) = 0) → Wx z 0 0 94 [(0, .ref ((zB z).size + 64)), (1, .int v1), (2, .int v2), (3, .int (v3 + 1))] [] G I L) ∧ ((((I 71 v3.toNatClampNeg) - (I 71 v3.toNatClampNeg) / (I 71 v2.toNatClampNeg) * (I 71 v2.toNatClampNeg)) = 0) → vp_in v2 16 ∧ vp_in v2 16 ∧ Wx z 0 0 94 [(0, .ref ((zB z).size + 64)), (1, .int v1), (2, .int v2), (3, .int (v3 + 1))] [] G (setI I 70 (upd (I 70) v2.toNatClampNeg ((I 70 v2.toNatClampNeg) ||| ((1 : Int32) <<< (v3 &&& 31))))) L))) : Wx z 0 0 94 [(0, .ref ((zB z).size + 64)), (1, .int v1), (2, .int v2), (3, .int v3)] [] G I L := by
  have hz1 := hz.1
  refine am_iload_n hz1 dX12_readsDivisors_94 3 rfl rfl ?_
  refine am_iload_n hz1 dX12_readsDivisors_95 1 rfl rfl ?_
  refine am_icmp_ge (tgt := 133) hz1 dX12_readsDivisors_96 (by decide) (fun c1 => ?_) (fun c1 => ?_)
  · replace h := h.1 c1
    refine am_iinc (v := v2 + 1) (lv' := [(2, .int (v2 + 1)), (0, .ref ((zB z).size + 64)), (1, .int v1), (3, .int v3)]) hz1 dX12_readsDivisors_133 2 rfl rfl rfl rfl ?_
    refine am_goto (tgt := 87) hz1 dX12_readsDivisors_136 (by decide) ?_
    exact am_sub (lv' := [(0, .ref ((zB z).size + 64)), (1, .int v1), (2, .int (v2 + 1))]) [1, 2, 0] rfl h
  · replace h := h.2 c1
    refine am_aload_n hz1 dX12_readsDivisors_99 0 rfl rfl ?_
    refine am_getR hz1 fl_X12_32 (ln_64 hG) (lk_64 hG) (lr_64_14 hG) rfl dX12_readsDivisors_100 ?_
    refine am_iload_n hz1 dX12_readsDivisors_103 3 rfl rfl ?_
    obtain ⟨g2, h⟩ := h
    refine am_iald hz1 (ln_71 hG) (lk_71 hG) (by rw [(ll_71 hG)]; exact g2) dX12_readsDivisors_104 ?_
    refine am_aload_n hz1 dX12_readsDivisors_105 0 rfl rfl ?_
    refine am_getR hz1 fl_X12_32 (ln_64 hG) (lk_64 hG) (lr_64_14 hG) rfl dX12_readsDivisors_106 ?_
    refine am_iload_n hz1 dX12_readsDivisors_109 2 rfl rfl ?_
    obtain ⟨g3, h⟩ := h
    refine am_iald hz1 (ln_71 hG) (lk_71 hG) (by rw [(ll_71 hG)]; exact g3) dX12_readsDivisors_110 ?_
    obtain ⟨g4, h⟩ := h
    refine am_irem hz1 dX12_readsDivisors_111 g4 ?_
    refine am_if_ne (tgt := 127) hz1 dX12_readsDivisors_112 (by decide) (fun c5 => ?_) (fun c5 => ?_)
    · replace h := h.1 c5
      refine am_iinc (v := v3 + 1) (lv' := [(3, .int (v3 + 1)), (0, .ref ((zB z).size + 64)), (1, .int v1), (2, .int v2)]) hz1 dX12_readsDivisors_127 3 rfl rfl rfl rfl ?_
      refine am_goto (tgt := 94) hz1 dX12_readsDivisors_130 (by decide) ?_
      exact am_sub (lv' := [(0, .ref ((zB z).size + 64)), (1, .int v1), (2, .int v2), (3, .int (v3 + 1))]) [1, 2, 3, 0] rfl h
    · replace h := h.2 c5
      refine am_aload_n hz1 dX12_readsDivisors_115 0 rfl rfl ?_
      refine am_getR hz1 fl_X12_29 (ln_64 hG) (lk_64 hG) (lr_64_13 hG) rfl dX12_readsDivisors_116 ?_
      refine am_iload_n hz1 dX12_readsDivisors_119 2 rfl rfl ?_
      refine am_dup2 hz1 dX12_readsDivisors_120 rfl rfl ?_
      obtain ⟨g6, h⟩ := h
      refine am_iald hz1 (ln_70 hG) (lk_70 hG) (by rw [(ll_70 hG)]; exact g6) dX12_readsDivisors_121 ?_
      refine am_iconst (v := 1) hz1 dX12_readsDivisors_122 (by decide) ?_
      refine am_iload_n hz1 dX12_readsDivisors_123 3 rfl rfl ?_
      refine am_ishl hz1 dX12_readsDivisors_124 ?_
      refine am_ior hz1 dX12_readsDivisors_125 ?_
      obtain ⟨g7, h⟩ := h
      refine am_iast hz1 (ln_70 hG) (lk_70 hG) (by rw [(ll_70 hG)]; exact g7) dX12_readsDivisors_126 ?_
      refine am_iinc (v := v3 + 1) (lv' := [(3, .int (v3 + 1)), (0, .ref ((zB z).size + 64)), (1, .int v1), (2, .int v2)]) hz1 dX12_readsDivisors_127 3 rfl rfl rfl rfl ?_
      refine am_goto (tgt := 94) hz1 dX12_readsDivisors_130 (by decide) ?_
      exact am_sub (lv' := [(0, .ref ((zB z).size + 64)), (1, .int v1), (2, .int v2), (3, .int (v3 + 1))]) [1, 2, 3, 0] rfl h
set_option maxRecDepth 100000 in
set_option maxHeartbeats 4000000 in
theorem c_X12_readsDivisors {l : Launch} {D : va_G} {B : Heap} {G : amG} {I : amI} {L : amL}  (hG : Lay G)   {m a : Nat} {T : Nat → Int32} (hT : tpO I m T a) (hw : a + wL 3 ≤ m) : Mx l D B yX12_readsDivisors cX12_readsDivisors 4 (some .boolean) 3 0 0 [.ref (B.size + 64)] G I L (kdP G I L m T 3 a) := by
  refine Mx.of (by decide) rfl rfl (fun z e1 e2 e3 hz => ?_)
  subst e1; subst e2; subst e3
  refine b_X12_readsDivisors_0 hz hG ?_
  have hA := kd_at hT hw (k := 8) rfl
  refine ⟨2, _, rfl, c_X12_readsNumber hG 1 999 hA rfl rfl (by decide) (by decide), fun ro G2 I2 L2 ⟨e1, e2, e3, e4, e5, e6⟩ => ⟨_, e1, by rw [e2]; exact hG, ?_⟩⟩
  have hf : frR I I2 := frR_t (frR_64 (Or.inl rfl)) e4.R
  rw [e2, e3, bI_ne, bI_eq, decide_eq_true_eq, decide_eq_false_iff_not]
  refine ⟨fun q => ?_, fun q => kd_no (q := 3) q hf (e6 q)⟩
  obtain ⟨c1, c2, c3⟩ := e5 q
  obtain ⟨v1, v2⟩ : 1 ≤ (rdN m T 1 999 (a + wL 3)).2.1 ∧ (rdN m T 1 999 (a + wL 3)).2.1 ≤ 999 := rd_v q
  generalize hv : (rdN m T 1 999 (a + wL 3)).2.1 = v at *
  have hv' : (rdN m T (kLo 3) (kHi 3) (a + wL 3)).2.1 = v := hv
  have thl : ∀ j, j < kN 3 v → 1 ≤ (dvL v).getD j 0 + 1 ∧ (dvL v).getD j 0 + 1 ≤ 999 := fun j hj => by
    have := (fl_get (show j < (fl (fun e => decide (v % (e + 1) = 0)) v).length from hj)).1
    have h2 : (dvL v).getD j 0 < v := this
    omega
  generalize hth : (fun j => (dvL v).getD j 0 + 1) = thg at *
  have hthj : ∀ j, (dvL v).getD j 0 + 1 = thg j := fun j => by rw [← hth]
  replace thl : ∀ j, j < kN 3 v → 1 ≤ thg j ∧ thg j ≤ 999 := fun j hj => by rw [← hthj]; exact thl j hj
  have table : ∀ X : amI, frR I X → X 64 8 = nI (rdN m T 1 999 (a + wL 3)).2.2.2 → X 64 10 = nI v → (∀ j, j < kN 3 v → X 71 j = nI (thg j)) → kN 3 v ≤ 16 → Wx z 0 0 87 [(0, .ref ((zB z).size + 64)), (1, .int (nI (kN 3 v))), (2, .int (nI 0))] [] G (setI (setI X 64 (upd (X 64) 12 (nI (kN 3 v)))) 70 (wr (X 70) 0 16 (m_al (nI (kN 3 v))))) L := by
    intro X x1 x2 x3 x4 h16
    generalize hn : kN 3 v = n at *
    have w10 : ∀ f : Nat → Int32, wi X (nI n) f 64 10 = nI v := fun f => by rw [wi, setI_n (by decide), setI_s, upd_n (by decide)]; exact x3
    have w71 : ∀ f : Nat → Int32, wi X (nI n) f 71 = X 71 := fun f => by rw [wi, setI_n (by decide), setI_n (by decide)]
    have main : ∀ f : Nat → Int32, tSt (kR 3 v) n 0 0 f → Wx z 0 0 87 [(0, .ref ((zB z).size + 64)), (1, .int (nI n)), (2, .int (nI 0))] [] G (wi X (nI n) f) L := by
      refine for_up (P := fun i => ∀ f : Nat → Int32, tSt (kR 3 v) n i 0 f → Wx z 0 0 87 [(0, .ref ((zB z).size + 64)), (1, .int (nI n)), (2, .int (nI i))] [] G (wi X (nI n) f) L) (n := n) ?_ ?_ (Nat.zero_le _)
      · intro f hf2
        refine b_X12_readsDivisors_87 hz hG ⟨fun _ => ?_, fun w => absurd (nI_le (Nat.le_refl _) (by omega)) w⟩
        exact kd_yes (q := 3) q (by rw [hv', hn]; exact h16) (frR_t x1 (frR_t (frR_64 (by omega)) (frR_70 (Or.inl rfl)))) (by rw [wi, setI_n (by decide), setI_s, upd_n (by decide)]; exact x2) (by rw [wi_12, hv', hn]) (fun j hj => by rw [wi_70]; rw [hv', hn] at hj ⊢; exact tSt_e hf2 h16 hj)
      · intro i hi ih f hf2
        refine b_X12_readsDivisors_87 hz hG ⟨fun w => absurd w (nI_ge hi (by omega)), fun _ => ?_⟩
        have inner : ∀ f : Nat → Int32, tSt (kR 3 v) n i 0 f → Wx z 0 0 94 [(0, .ref ((zB z).size + 64)), (1, .int (nI n)), (2, .int (nI i)), (3, .int (nI 0))] [] G (wi X (nI n) f) L := by
          refine for_up (P := fun b => ∀ f : Nat → Int32, tSt (kR 3 v) n i b f → Wx z 0 0 94 [(0, .ref ((zB z).size + 64)), (1, .int (nI n)), (2, .int (nI i)), (3, .int (nI b))] [] G (wi X (nI n) f) L) (n := n) ?_ ?_ (Nat.zero_le _)
          · intro f hf3
            refine b_X12_readsDivisors_94 hz hG ⟨fun _ => ?_, fun w => absurd (nI_le (Nat.le_refl _) (by omega)) w⟩
            rw [nI_1]
            exact ih f (tSt_n hf3 hi)
          · intro b hb bh f hf3
            refine b_X12_readsDivisors_94 hz hG ⟨fun w => absurd w (nI_ge hb (by omega)), fun _ => ?_⟩
            rw [w71, wi_70, cl_nI (n := i) (by omega), cl_nI (n := b) (by omega), x4 i hi, x4 b hb, nI_1]
            have hi1 := thl i (by omega)
            have hb1 := thl b (by omega)
            rw [nI_rem (by omega) (by omega) (by omega)]
            refine ⟨in_nI (by omega) (by decide), in_nI (by omega) (by decide), fun w => absurd ((nI_eq (b := 0) (by omega) (by decide)).mp w) (by omega), fun w => bh _ (tSt_f hf3 (decide_eq_false fun e => w (by rw [show thg b % thg i = 0 from (by rw [← hthj, ← hthj]; exact e)]; rfl))), fun w => ?_⟩
            rw [wi, setI_ss]
            have hm : thg b % thg i < 2 ^ 31 := Nat.lt_of_le_of_lt (Nat.mod_le _ _) (by omega)
            exact ⟨in_nI (by omega) (by decide), in_nI (by omega) (by decide), bh _ (tSt_t hf3 hi (decide_eq_true (by rw [hthj, hthj]; exact (nI_eq (b := 0) hm (by decide)).mp w)))⟩
        exact inner f hf2
    exact main _ (tSt_0 h16)
  have main : ∀ X : amI, frR I X → X 64 8 = nI (rdN m T 1 999 (a + wL 3)).2.2.2 → X 64 10 = nI v → X 64 11 = nI (rdN m T 1 999 (a + wL 3)).2.2.1 → (∀ j, j < (fl (fun e => decide (v % (e + 1) = 0)) 0).length → X 71 j = nI ((fl (fun e => decide (v % (e + 1) = 0)) 0).getD j 0 + 1)) → (fl (fun e => decide (v % (e + 1) = 0)) 0).length ≤ 16 → Wx z 0 0 28 [(0, .ref ((zB z).size + 64)), (1, .int (nI (fl (fun e => decide (v % (e + 1) = 0)) 0).length)), (2, .int (nI (0 + 1)))] [] G X L := by
    refine for_up (P := fun e => ∀ X : amI, frR I X → X 64 8 = nI (rdN m T 1 999 (a + wL 3)).2.2.2 → X 64 10 = nI v → X 64 11 = nI (rdN m T 1 999 (a + wL 3)).2.2.1 → (∀ j, j < (fl (fun e => decide (v % (e + 1) = 0)) e).length → X 71 j = nI ((fl (fun e => decide (v % (e + 1) = 0)) e).getD j 0 + 1)) → (fl (fun e => decide (v % (e + 1) = 0)) e).length ≤ 16 → Wx z 0 0 28 [(0, .ref ((zB z).size + 64)), (1, .int (nI (fl (fun e => decide (v % (e + 1) = 0)) e).length)), (2, .int (nI (e + 1)))] [] G X L) (n := v) ?_ ?_ (Nat.zero_le _)
    · intro X x1 x2 x3 x5 x4 x6
      refine b_X12_readsDivisors_28 hz hG ⟨fun _ => ?_, fun w => absurd (by rw [x3]; exact nI_lt (Nat.lt_succ_self _) (by omega)) w⟩
      exact table X x1 x2 x3 (fun j hj => by rw [← hthj]; exact x4 j hj) x6
    · intro e he ih X x1 x2 x3 x5 x4 x6
      refine b_X12_readsDivisors_28 hz hG ⟨fun w => absurd w (by rw [x3, nI_ltI (by omega) (by omega)]; omega), fun _ => ⟨fun w => absurd ((nI_eq (b := 0) (by omega) (by decide)).mp w) (by omega), ?_⟩⟩
      rw [x3, nI_rem (by omega) (by omega) (by omega), nI_1 (e + 1)]
      have hm : v % (e + 1) < 2 ^ 31 := Nat.lt_of_le_of_lt (Nat.mod_le _ _) (by omega)
      have hs := fl_s (p := fun e => decide (v % (e + 1) = 0)) (n := e)
      refine ⟨fun w => ?_, fun w => ?_⟩
      · have hp : v % (e + 1) = 0 := (nI_eq (b := 0) hm (by decide)).mp w
        rw [if_pos (decide_eq_true hp)] at hs
        have hlen : (fl (fun e => decide (v % (e + 1) = 0)) (e + 1)).length = (fl (fun e => decide (v % (e + 1) = 0)) e).length + 1 := by rw [hs, List.length_append]; rfl
        refine ⟨fun g => ?_, fun g => ?_⟩
        · have hne : ¬ (fl (fun e => decide (v % (e + 1) = 0)) e).length = 16 := fun k => g (by rw [k]; rfl)
          rw [cl_nI (n := (fl (fun e => decide (v % (e + 1) = 0)) e).length) (by omega), nI_1]
          refine ⟨in_nI (by omega) (by decide), ?_⟩
          have := ih (setI X 71 (upd (X 71) (fl (fun e => decide (v % (e + 1) = 0)) e).length (nI (e + 1)))) (frR_t x1 (frR_70 (Or.inr rfl))) (by rw [setI_n (by decide)]; exact x2) (by rw [setI_n (by decide)]; exact x3) (by rw [setI_n (by decide)]; exact x5) (fun j hj => by
            rw [setI_s, hs]
            by_cases ej : j = (fl (fun e => decide (v % (e + 1) = 0)) e).length
            · rw [ej, upd_s, List.getD_eq_getElem?_getD, List.getElem?_append_right (Nat.le_refl _), Nat.sub_self]; rfl
            · rw [upd_n ej, List.getD_eq_getElem?_getD, List.getElem?_append_left (by omega), ← List.getD_eq_getElem?_getD]
              exact x4 j (by omega)) (by omega)
          rw [hlen] at this
          exact this
        · have h16 : (fl (fun e => decide (v % (e + 1) = 0)) e).length = 16 := (nI_eq (b := 16) (by omega) (by decide)).mp g
          refine kd_big (q := 3) q ?_ (frR_t x1 (frR_64 (by omega))) ?_
          · rw [hv']
            have := fl_mono (p := fun e => decide (v % (e + 1) = 0)) (show e + 1 ≤ v by omega)
            show ¬ (fl (fun e => decide (v % (e + 1) = 0)) v).length ≤ 16
            omega
          · rw [setI_s, upd_s, x5, show (8 : Int32) = nI 8 from rfl, show (2 : Int32) = nI 2 from rfl, nI_mul, nI_add]; rfl
      · have hp : ¬ v % (e + 1) = 0 := fun k => w (by rw [k]; rfl)
        rw [if_neg (by rw [decide_eq_false hp]; decide)] at hs
        rw [hs] at ih
        exact ih X x1 x2 x3 x5 x4 x6
  exact main I2 hf c1 c2 c3 (fun j hj => absurd hj (Nat.not_lt_zero _)) (Nat.zero_le _)
set_option maxRecDepth 100000 in
set_option maxHeartbeats 4000000 in
theorem b_X12_readsParts_0 {z : amZ} {post : amP} {G : amG} {I : amI} {L : amL} (hz : Go z cX12_readsParts RX12 4 (some .boolean) 3 0 0 post) (hG : Lay G)  (h : ∃ (dq1 : Nat) (postq1 : amP), Nat.ble (dq1 + 1) 3 = true ∧ Mx (zL z) (zD z) (zB z) yX12_readsNumber cX12_readsNumber 5 (some .boolean) dq1 0 0 [.ref ((zB z).size + 64), .int 1, .int 4] G (setI I 64 (upd (I 64) 8 ((I 64 8) + (5 : Int32)))) L postq1 ∧ ∀ (roq1 : Option Value) (Gq1 : amG) (Iq1 : amI) (Lq1 : amL), postq1 roq1 Gq1 Iq1 Lq1 → ∃ (rq1 : Int32), roq1 = some (.int rq1) ∧ Lay Gq1 ∧ ((¬ rq1 = 0) → Wx z 0 0 25 [(0, .ref ((zB z).size + 64)), (1, .int 0), (2, .int 0)] [] Gq1 Iq1 Lq1) ∧ ((rq1 = 0) → post (some (.int 0)) Gq1 Iq1 Lq1)) : Wx z 0 0 0 [(0, .ref ((zB z).size + 64))] [] G I L := by
  have hz1 := hz.1
  refine am_aload_n hz1 dX12_readsParts_0 0 rfl rfl ?_
  refine am_dup hz1 dX12_readsParts_1 rfl ?_
  refine am_getI hz1 fl_X12_133 (ln_64 hG) (lk_64 hG) rfl dX12_readsParts_2 ?_
  refine am_iconst (v := 5) hz1 dX12_readsParts_5 (by decide) ?_
  refine am_iadd hz1 dX12_readsParts_6 ?_
  refine am_putI hz1 fl_X12_133 (ln_64 hG) (lk_64 hG) rfl rfl (fun _ => rfl) dX12_readsParts_7 ?_
  refine am_aload_n hz1 dX12_readsParts_10 0 rfl rfl ?_
  refine am_iconst (v := 1) hz1 dX12_readsParts_11 (by decide) ?_
  refine am_iconst (v := 4) hz1 dX12_readsParts_12 (by decide) ?_
  obtain ⟨dq1, postq1, hdq1, hMq1, h⟩ := h
  refine am_callV hz1 cv_X12_173 [.int 1, .int 4] [] hMq1 (ln_64 hG) (lk_64 hG) rfl rfl (hz.fr hdq1) (hz.lo hdq1) (by rw [hz.2.1]; exact ⟨Nat.le_refl _, Nat.le_refl _⟩) (Nat.le_of_ble_eq_true rfl) dX12_readsParts_13 (fun roq1 Gq1 Iq1 Lq1 hpq1 => ?_)
  obtain ⟨rq1, rfl, hGq1, h⟩ := h roq1 Gq1 Iq1 Lq1 hpq1
  refine am_if_ne (tgt := 21) hz1 dX12_readsParts_16 (by decide) (fun c2 => ?_) (fun c2 => ?_)
  · replace h := h.1 c2
    refine am_iconst (v := 0) hz1 dX12_readsParts_21 (by decide) ?_
    refine am_istore_n (lv' := [(1, .int 0), (0, .ref ((zB z).size + 64))]) hz1 dX12_readsParts_22 rfl rfl rfl ?_
    refine am_iconst (v := 0) hz1 dX12_readsParts_23 (by decide) ?_
    refine am_istore_n (lv' := [(2, .int 0), (1, .int 0), (0, .ref ((zB z).size + 64))]) hz1 dX12_readsParts_24 rfl rfl rfl ?_
    exact am_sub (lv' := [(0, .ref ((zB z).size + 64)), (1, .int 0), (2, .int 0)]) [2, 1, 0] rfl h
  · replace h := h.2 c2
    refine am_iconst (v := 0) hz1 dX12_readsParts_19 (by decide) ?_
    exact am_zreturn hz (by decide) dX12_readsParts_20 h
set_option maxRecDepth 100000 in
set_option maxHeartbeats 4000000 in
theorem b_X12_readsParts_25 {z : amZ} {post : amP} {G : amG} {I : amI} {L : amL} (hz : Go z cX12_readsParts RX12 4 (some .boolean) 3 0 0 post) (hG : Lay G) {v1 : Int32} {v2 : Int32} (h : (((256 : Int32) ≤ v2) → Wx z 0 0 69 [(0, .ref ((zB z).size + 64)), (1, .int v1), (2, .int 0)] [] G (setI (setI I 64 (upd (I 64) 12 v1)) 70 (wr (I 70) 0 16 (m_al v1))) L) ∧ ((¬ (256 : Int32) ≤ v2) → (rwOk v2 (I 64 10)) ∧ ((rowB (I 64 10).toNatClampNeg v2.toNatClampNeg = true) → vp_in v1 16 ∧ Wx z 0 0 25 [(0, .ref ((zB z).size + 64)), (1, .int (v1 + 1)), (2, .int (v2 + 1))] [] G (setI I 71 (upd (I 71) v1.toNatClampNeg v2)) L) ∧ ((rowB (I 64 10).toNatClampNeg v2.toNatClampNeg = false) → Wx z 0 0 25 [(0, .ref ((zB z).size + 64)), (1, .int v1), (2, .int (v2 + 1))] [] G I L))) : Wx z 0 0 25 [(0, .ref ((zB z).size + 64)), (1, .int v1), (2, .int v2)] [] G I L := by
  have hz1 := hz.1
  refine am_iload_n hz1 dX12_readsParts_25 2 rfl rfl ?_
  refine am_sipush (v := 256) hz1 dX12_readsParts_26 (by decide) ?_
  refine am_icmp_ge (tgt := 62) hz1 dX12_readsParts_29 (by decide) (fun c1 => ?_) (fun c1 => ?_)
  · replace h := h.1 c1
    refine am_aload_n hz1 dX12_readsParts_62 0 rfl rfl ?_
    refine am_iload_n hz1 dX12_readsParts_63 1 rfl rfl ?_
    refine am_cVf hz cv_X12_176 [.int v1] [] (c_X12_alone hG v1 ) (ln_64 hG) (lk_64 hG) rfl rfl rfl ⟨Nat.le_refl _, Nat.le_refl _⟩ (Nat.le_of_ble_eq_true rfl) dX12_readsParts_64 ?_
    refine am_iconst (v := 0) hz1 dX12_readsParts_67 (by decide) ?_
    refine am_istore_n (lv' := [(2, .int 0), (0, .ref ((zB z).size + 64)), (1, .int v1)]) hz1 dX12_readsParts_68 rfl rfl rfl ?_
    exact am_sub (lv' := [(0, .ref ((zB z).size + 64)), (1, .int v1), (2, .int 0)]) [1, 2, 0] rfl h
  · replace h := h.2 c1
    refine am_iload_n hz1 dX12_readsParts_32 2 rfl rfl ?_
    refine am_aload_n hz1 dX12_readsParts_33 0 rfl rfl ?_
    refine am_getI hz1 fl_X12_167 (ln_64 hG) (lk_64 hG) rfl dX12_readsParts_34 ?_
    obtain ⟨g2, h⟩ := h
    refine am_cSf hz ct_X12_183 [.int v2, .int (I 64 10)] [] (c_X12_isRow hG v2 (I 64 10) g2) rfl rfl rfl ⟨Nat.le_refl _, Nat.le_refl _⟩ (Nat.le_of_ble_eq_true rfl) dX12_readsParts_37 ?_
    refine am_ifb_ne (tgt := 46) hz1 dX12_readsParts_40 (by decide) (fun c3 => ?_) (fun c3 => ?_)
    · replace h := h.1 c3
      refine am_aload_n hz1 dX12_readsParts_46 0 rfl rfl ?_
      refine am_getR hz1 fl_X12_32 (ln_64 hG) (lk_64 hG) (lr_64_14 hG) rfl dX12_readsParts_47 ?_
      refine am_iload_n hz1 dX12_readsParts_50 1 rfl rfl ?_
      refine am_iload_n hz1 dX12_readsParts_51 2 rfl rfl ?_
      obtain ⟨g4, h⟩ := h
      refine am_iast hz1 (ln_71 hG) (lk_71 hG) (by rw [(ll_71 hG)]; exact g4) dX12_readsParts_52 ?_
      refine am_iinc (v := v1 + 1) (lv' := [(1, .int (v1 + 1)), (0, .ref ((zB z).size + 64)), (2, .int v2)]) hz1 dX12_readsParts_53 1 rfl rfl rfl rfl ?_
      refine am_iinc (v := v2 + 1) (lv' := [(2, .int (v2 + 1)), (1, .int (v1 + 1)), (0, .ref ((zB z).size + 64))]) hz1 dX12_readsParts_56 2 rfl rfl rfl rfl ?_
      refine am_goto (tgt := 25) hz1 dX12_readsParts_59 (by decide) ?_
      exact am_sub (lv' := [(0, .ref ((zB z).size + 64)), (1, .int (v1 + 1)), (2, .int (v2 + 1))]) [2, 1, 0] rfl h
    · replace h := h.2 c3
      refine am_goto (tgt := 56) hz1 dX12_readsParts_43 (by decide) ?_
      refine am_iinc (v := v2 + 1) (lv' := [(2, .int (v2 + 1)), (0, .ref ((zB z).size + 64)), (1, .int v1)]) hz1 dX12_readsParts_56 2 rfl rfl rfl rfl ?_
      refine am_goto (tgt := 25) hz1 dX12_readsParts_59 (by decide) ?_
      exact am_sub (lv' := [(0, .ref ((zB z).size + 64)), (1, .int v1), (2, .int (v2 + 1))]) [1, 2, 0] rfl h
set_option maxRecDepth 100000 in
set_option maxHeartbeats 4000000 in
theorem b_X12_readsParts_69 {z : amZ} {post : amP} {G : amG} {I : amI} {L : amL} (hz : Go z cX12_readsParts RX12 4 (some .boolean) 3 0 0 post) (hG : Lay G) {v1 : Int32} {v2 : Int32} (h : ((v1 ≤ v2) → post (some (.int 1)) G I L) ∧ ((¬ v1 ≤ v2) → Wx z 0 0 76 [(0, .ref ((zB z).size + 64)), (1, .int v1), (2, .int v2), (3, .int 0)] [] G I L)) : Wx z 0 0 69 [(0, .ref ((zB z).size + 64)), (1, .int v1), (2, .int v2)] [] G I L := by
  have hz1 := hz.1
  refine am_iload_n hz1 dX12_readsParts_69 2 rfl rfl ?_
  refine am_iload_n hz1 dX12_readsParts_70 1 rfl rfl ?_
  refine am_icmp_ge (tgt := 127) hz1 dX12_readsParts_71 (by decide) (fun c1 => ?_) (fun c1 => ?_)
  · replace h := h.1 c1
    refine am_iconst (v := 1) hz1 dX12_readsParts_127 (by decide) ?_
    exact am_zreturn hz (by decide) dX12_readsParts_128 h
  · replace h := h.2 c1
    refine am_iconst (v := 0) hz1 dX12_readsParts_74 (by decide) ?_
    refine am_istore_n (lv' := [(3, .int 0), (0, .ref ((zB z).size + 64)), (1, .int v1), (2, .int v2)]) hz1 dX12_readsParts_75 rfl rfl rfl ?_
    exact am_sub (lv' := [(0, .ref ((zB z).size + 64)), (1, .int v1), (2, .int v2), (3, .int 0)]) [1, 2, 3, 0] rfl h
set_option maxRecDepth 100000 in
set_option maxHeartbeats 4000000 in
theorem b_X12_readsParts_76 {z : amZ} {post : amP} {G : amG} {I : amI} {L : amL} (hz : Go z cX12_readsParts RX12 4 (some .boolean) 3 0 0 post) (hG : Lay G) {v1 : Int32} {v2 : Int32} {v3 : Int32} (h : ((v1 ≤ v3) → Wx z 0 0 69 [(0, .ref ((zB z).size + 64)), (1, .int v1), (2, .int (v2 + 1))] [] G I L) ∧ ((¬ v1 ≤ v3) → vp_in v2 16 ∧ vp_in v3 16 ∧ (rwOk (I 71 v2.toNatClampNeg) (I 64 10)) ∧ (rwOk (I 71 v3.toNatClampNeg) (I 64 10)) ∧ ((finB (I 64 10).toNatClampNeg (I 71 v2.toNatClampNeg).toNatClampNeg (I 71 v3.toNatClampNeg).toNatClampNeg = false) → Wx z 0 0 76 [(0, .ref ((zB z).size + 64)), (1, .int v1), (2, .int v2), (3, .int (v3 + 1))] [] G I L) ∧ ((finB (I 64 10).toNatClampNeg (I 71 v2.toNatClampNeg).toNatClampNeg (I 71 v3.toNatClampNeg).toNatClampNeg = true) → vp_in v2 16 ∧ vp_in v2 16 ∧ Wx z 0 0 76 [(0, .ref ((zB z).size + 64)), (1, .int v1), (2, .int v2), (3, .int (v3 + 1))] [] G (setI I 70 (upd (I 70) v2.toNatClampNeg ((I 70 v2.toNatClampNeg) ||| ((1 : Int32) <<< (v3 &&& 31))))) L))) : Wx z 0 0 76 [(0, .ref ((zB z).size + 64)), (1, .int v1), (2, .int v2), (3, .int v3)] [] G I L := by
  have hz1 := hz.1
  refine am_iload_n hz1 dX12_readsParts_76 3 rfl rfl ?_
  refine am_iload_n hz1 dX12_readsParts_77 1 rfl rfl ?_
  refine am_icmp_ge (tgt := 121) hz1 dX12_readsParts_78 (by decide) (fun c1 => ?_) (fun c1 => ?_)
  · replace h := h.1 c1
    refine am_iinc (v := v2 + 1) (lv' := [(2, .int (v2 + 1)), (0, .ref ((zB z).size + 64)), (1, .int v1), (3, .int v3)]) hz1 dX12_readsParts_121 2 rfl rfl rfl rfl ?_
    refine am_goto (tgt := 69) hz1 dX12_readsParts_124 (by decide) ?_
    exact am_sub (lv' := [(0, .ref ((zB z).size + 64)), (1, .int v1), (2, .int (v2 + 1))]) [1, 2, 0] rfl h
  · replace h := h.2 c1
    refine am_aload_n hz1 dX12_readsParts_81 0 rfl rfl ?_
    refine am_getR hz1 fl_X12_32 (ln_64 hG) (lk_64 hG) (lr_64_14 hG) rfl dX12_readsParts_82 ?_
    refine am_iload_n hz1 dX12_readsParts_85 2 rfl rfl ?_
    obtain ⟨g2, h⟩ := h
    refine am_iald hz1 (ln_71 hG) (lk_71 hG) (by rw [(ll_71 hG)]; exact g2) dX12_readsParts_86 ?_
    refine am_aload_n hz1 dX12_readsParts_87 0 rfl rfl ?_
    refine am_getR hz1 fl_X12_32 (ln_64 hG) (lk_64 hG) (lr_64_14 hG) rfl dX12_readsParts_88 ?_
    refine am_iload_n hz1 dX12_readsParts_91 3 rfl rfl ?_
    obtain ⟨g3, h⟩ := h
    refine am_iald hz1 (ln_71 hG) (lk_71 hG) (by rw [(ll_71 hG)]; exact g3) dX12_readsParts_92 ?_
    refine am_aload_n hz1 dX12_readsParts_93 0 rfl rfl ?_
    refine am_getI hz1 fl_X12_167 (ln_64 hG) (lk_64 hG) rfl dX12_readsParts_94 ?_
    obtain ⟨g4, h⟩ := h
    obtain ⟨g5, h⟩ := h
    refine am_cSf hz ct_X12_186 [.int (I 71 v2.toNatClampNeg), .int (I 71 v3.toNatClampNeg), .int (I 64 10)] [] (c_X12_isFiner hG (I 71 v2.toNatClampNeg) (I 71 v3.toNatClampNeg) (I 64 10) g4 g5) rfl rfl rfl ⟨Nat.le_refl _, Nat.le_refl _⟩ (Nat.le_of_ble_eq_true rfl) dX12_readsParts_97 ?_
    refine am_ifb_eq (tgt := 115) hz1 dX12_readsParts_100 (by decide) (fun c6 => ?_) (fun c6 => ?_)
    · replace h := h.1 c6
      refine am_iinc (v := v3 + 1) (lv' := [(3, .int (v3 + 1)), (0, .ref ((zB z).size + 64)), (1, .int v1), (2, .int v2)]) hz1 dX12_readsParts_115 3 rfl rfl rfl rfl ?_
      refine am_goto (tgt := 76) hz1 dX12_readsParts_118 (by decide) ?_
      exact am_sub (lv' := [(0, .ref ((zB z).size + 64)), (1, .int v1), (2, .int v2), (3, .int (v3 + 1))]) [1, 2, 3, 0] rfl h
    · replace h := h.2 c6
      refine am_aload_n hz1 dX12_readsParts_103 0 rfl rfl ?_
      refine am_getR hz1 fl_X12_29 (ln_64 hG) (lk_64 hG) (lr_64_13 hG) rfl dX12_readsParts_104 ?_
      refine am_iload_n hz1 dX12_readsParts_107 2 rfl rfl ?_
      refine am_dup2 hz1 dX12_readsParts_108 rfl rfl ?_
      obtain ⟨g7, h⟩ := h
      refine am_iald hz1 (ln_70 hG) (lk_70 hG) (by rw [(ll_70 hG)]; exact g7) dX12_readsParts_109 ?_
      refine am_iconst (v := 1) hz1 dX12_readsParts_110 (by decide) ?_
      refine am_iload_n hz1 dX12_readsParts_111 3 rfl rfl ?_
      refine am_ishl hz1 dX12_readsParts_112 ?_
      refine am_ior hz1 dX12_readsParts_113 ?_
      obtain ⟨g8, h⟩ := h
      refine am_iast hz1 (ln_70 hG) (lk_70 hG) (by rw [(ll_70 hG)]; exact g8) dX12_readsParts_114 ?_
      refine am_iinc (v := v3 + 1) (lv' := [(3, .int (v3 + 1)), (0, .ref ((zB z).size + 64)), (1, .int v1), (2, .int v2)]) hz1 dX12_readsParts_115 3 rfl rfl rfl rfl ?_
      refine am_goto (tgt := 76) hz1 dX12_readsParts_118 (by decide) ?_
      exact am_sub (lv' := [(0, .ref ((zB z).size + 64)), (1, .int v1), (2, .int v2), (3, .int (v3 + 1))]) [1, 2, 3, 0] rfl h
set_option maxRecDepth 100000 in
set_option maxHeartbeats 4000000 in
theorem c_X12_readsParts {l : Launch} {D : va_G} {B : Heap} {G : amG} {I : amI} {L : amL}  (hG : Lay G)   {m a : Nat} {T : Nat → Int32} (hT : tpO I m T a) (hw : a + wL 4 ≤ m) : Mx l D B yX12_readsParts cX12_readsParts 4 (some .boolean) 3 0 0 [.ref (B.size + 64)] G I L (kdP G I L m T 4 a) := by
  refine Mx.of (by decide) rfl rfl (fun z e1 e2 e3 hz => ?_)
  subst e1; subst e2; subst e3
  refine b_X12_readsParts_0 hz hG ?_
  have hA := kd_at hT hw (k := 5) rfl
  refine ⟨2, _, rfl, c_X12_readsNumber hG 1 4 hA rfl rfl (by decide) (by decide), fun ro G2 I2 L2 ⟨e1, e2, e3, e4, e5, e6⟩ => ⟨_, e1, by rw [e2]; exact hG, ?_⟩⟩
  have hf : frR I I2 := frR_t (frR_64 (Or.inl rfl)) e4.R
  rw [e2, e3, bI_ne, bI_eq, decide_eq_true_eq, decide_eq_false_iff_not]
  refine ⟨fun q => ?_, fun q => kd_no (q := 4) q hf (e6 q)⟩
  obtain ⟨c1, c2, c3⟩ := e5 q
  obtain ⟨v1, v2⟩ : 1 ≤ (rdN m T 1 4 (a + wL 4)).2.1 ∧ (rdN m T 1 4 (a + wL 4)).2.1 ≤ 4 := rd_v q
  generalize hv : (rdN m T 1 4 (a + wL 4)).2.1 = v at *
  have hv' : (rdN m T (kLo 4) (kHi 4) (a + wL 4)).2.1 = v := hv
  have hfl := pt_fl v (by omega) v1
  have thl : ∀ j, j < kN 4 v → (ptL v).getD j 0 < 256 := fun j hj => by
    have hj' : j < (fl (rowB v) 256).length := by rw [hfl]; exact hj
    have := (fl_get hj').1
    rw [hfl] at this
    exact this
  generalize hth : (fun j => (ptL v).getD j 0) = thg at *
  have hthj : ∀ j, (ptL v).getD j 0 = thg j := fun j => by rw [← hth]
  replace thl : ∀ j, j < kN 4 v → thg j < 256 := fun j hj => by rw [← hthj]; exact thl j hj
  have table : ∀ X : amI, frR I X → X 64 8 = nI (rdN m T 1 4 (a + wL 4)).2.2.2 → X 64 10 = nI v → (∀ j, j < kN 4 v → X 71 j = nI (thg j)) → kN 4 v ≤ 16 → Wx z 0 0 69 [(0, .ref ((zB z).size + 64)), (1, .int (nI (kN 4 v))), (2, .int (nI 0))] [] G (setI (setI X 64 (upd (X 64) 12 (nI (kN 4 v)))) 70 (wr (X 70) 0 16 (m_al (nI (kN 4 v))))) L := by
    intro X x1 x2 x3 x4 h16
    generalize hn : kN 4 v = n at *
    have w10 : ∀ f : Nat → Int32, wi X (nI n) f 64 10 = nI v := fun f => by rw [wi, setI_n (by decide), setI_s, upd_n (by decide)]; exact x3
    have w71 : ∀ f : Nat → Int32, wi X (nI n) f 71 = X 71 := fun f => by rw [wi, setI_n (by decide), setI_n (by decide)]
    have main : ∀ f : Nat → Int32, tSt (kR 4 v) n 0 0 f → Wx z 0 0 69 [(0, .ref ((zB z).size + 64)), (1, .int (nI n)), (2, .int (nI 0))] [] G (wi X (nI n) f) L := by
      refine for_up (P := fun i => ∀ f : Nat → Int32, tSt (kR 4 v) n i 0 f → Wx z 0 0 69 [(0, .ref ((zB z).size + 64)), (1, .int (nI n)), (2, .int (nI i))] [] G (wi X (nI n) f) L) (n := n) ?_ ?_ (Nat.zero_le _)
      · intro f hf2
        refine b_X12_readsParts_69 hz hG ⟨fun _ => ?_, fun w => absurd (nI_le (Nat.le_refl _) (by omega)) w⟩
        exact kd_yes (q := 4) q (by rw [hv', hn]; exact h16) (frR_t x1 (frR_t (frR_64 (by omega)) (frR_70 (Or.inl rfl)))) (by rw [wi, setI_n (by decide), setI_s, upd_n (by decide)]; exact x2) (by rw [wi_12, hv', hn]) (fun j hj => by rw [wi_70]; rw [hv', hn] at hj ⊢; exact tSt_e hf2 h16 hj)
      · intro i hi ih f hf2
        refine b_X12_readsParts_69 hz hG ⟨fun w => absurd w (nI_ge hi (by omega)), fun _ => ?_⟩
        have inner : ∀ f : Nat → Int32, tSt (kR 4 v) n i 0 f → Wx z 0 0 76 [(0, .ref ((zB z).size + 64)), (1, .int (nI n)), (2, .int (nI i)), (3, .int (nI 0))] [] G (wi X (nI n) f) L := by
          refine for_up (P := fun b => ∀ f : Nat → Int32, tSt (kR 4 v) n i b f → Wx z 0 0 76 [(0, .ref ((zB z).size + 64)), (1, .int (nI n)), (2, .int (nI i)), (3, .int (nI b))] [] G (wi X (nI n) f) L) (n := n) ?_ ?_ (Nat.zero_le _)
          · intro f hf3
            refine b_X12_readsParts_76 hz hG ⟨fun _ => ?_, fun w => absurd (nI_le (Nat.le_refl _) (by omega)) w⟩
            rw [nI_1]
            exact ih f (tSt_n hf3 hi)
          · intro b hb bh f hf3
            refine b_X12_readsParts_76 hz hG ⟨fun w => absurd w (nI_ge hb (by omega)), fun _ => ?_⟩
            rw [w71, wi_70, cl_nI (n := i) (by omega), cl_nI (n := b) (by omega), x4 i hi, x4 b hb, nI_1]
            have hi1 := thl i (by omega)
            have hb1 := thl b (by omega)
            rw [w10, cl_nI (n := v) (by omega), cl_nI (n := thg i) (by omega), cl_nI (n := thg b) (by omega)]
            refine ⟨in_nI (by omega) (by decide), in_nI (by omega) (by decide), ⟨_, _, hi1, v2, rfl, rfl⟩, ⟨_, _, hb1, v2, rfl, rfl⟩, fun w => bh _ (tSt_f hf3 (by rw [← hthj, ← hthj] at w; exact w)), fun w => ?_⟩
            rw [wi, setI_ss]
            exact ⟨in_nI (by omega) (by decide), in_nI (by omega) (by decide), bh _ (tSt_t hf3 hi (by rw [← hthj, ← hthj] at w; exact w))⟩
        exact inner f hf2
    exact main _ (tSt_0 h16)
  have main : ∀ X : amI, frR I X → X 64 8 = nI (rdN m T 1 4 (a + wL 4)).2.2.2 → X 64 10 = nI v → (∀ j, j < (fl (rowB v) 0).length → X 71 j = nI ((fl (rowB v) 0).getD j 0)) → Wx z 0 0 25 [(0, .ref ((zB z).size + 64)), (1, .int (nI (fl (rowB v) 0).length)), (2, .int (nI 0))] [] G X L := by
    refine for_up (P := fun e => ∀ X : amI, frR I X → X 64 8 = nI (rdN m T 1 4 (a + wL 4)).2.2.2 → X 64 10 = nI v → (∀ j, j < (fl (rowB v) e).length → X 71 j = nI ((fl (rowB v) e).getD j 0)) → Wx z 0 0 25 [(0, .ref ((zB z).size + 64)), (1, .int (nI (fl (rowB v) e).length)), (2, .int (nI e))] [] G X L) (n := 256) ?_ ?_ (Nat.zero_le _)
    · intro X x1 x2 x3 x4
      refine b_X12_readsParts_25 hz hG ⟨fun _ => ?_, fun w => absurd (nI_le (a := 256) (b := 256) (Nat.le_refl _) (by decide)) w⟩
      rw [hfl] at x4 ⊢
      exact table X x1 x2 x3 (fun j hj => by rw [← hthj]; exact x4 j hj) (pt_len v (by omega))
    · intro e he ih X x1 x2 x3 x4
      have hs := fl_s (p := rowB v) (n := e)
      have hmono := fl_mono (p := rowB v) (show e + 1 ≤ 256 by omega)
      have h16 := pt_len v (by omega)
      rw [hfl] at hmono
      refine b_X12_readsParts_25 hz hG ⟨fun w => absurd w (nI_ge (b := 256) he (by decide)), fun _ => ?_⟩
      rw [x3, cl_nI (n := v) (by omega), cl_nI (n := e) (by omega), nI_1 e]
      refine ⟨⟨_, _, he, v2, rfl, rfl⟩, fun w => ?_, fun w => ?_⟩
      · rw [if_pos w] at hs
        have hlen : (fl (rowB v) (e + 1)).length = (fl (rowB v) e).length + 1 := by rw [hs, List.length_append]; rfl
        rw [cl_nI (n := (fl (rowB v) e).length) (by omega), nI_1]
        refine ⟨in_nI (by omega) (by decide), ?_⟩
        have := ih (setI X 71 (upd (X 71) (fl (rowB v) e).length (nI e))) (frR_t x1 (frR_70 (Or.inr rfl))) (by rw [setI_n (by decide)]; exact x2) (by rw [setI_n (by decide)]; exact x3) (fun j hj => by
          rw [setI_s, hs]
          by_cases ej : j = (fl (rowB v) e).length
          · rw [ej, upd_s, List.getD_eq_getElem?_getD, List.getElem?_append_right (Nat.le_refl _), Nat.sub_self]; rfl
          · rw [upd_n ej, List.getD_eq_getElem?_getD, List.getElem?_append_left (by omega), ← List.getD_eq_getElem?_getD]
            exact x4 j (by omega))
        rw [hlen] at this
        exact this
      · rw [if_neg (by rw [w]; decide)] at hs
        rw [hs] at ih
        exact ih X x1 x2 x3 x4
  exact main I2 hf c1 c2 (fun j hj => absurd hj (Nat.not_lt_zero _))
