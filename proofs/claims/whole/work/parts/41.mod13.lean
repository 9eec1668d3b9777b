/-! THE REFERENCE: the map, the order there, both sides; what is left of the small questions -/
def m_whole (L : amL) : Bool := scan (fun x => decide (m_map L (nI x) = -1)) (fun _ => false) true (mN L) 0
def mpOk (L : amL) : Prop := ∀ x, x < mN L → vp_in (m_map L (nI x)) 16
def tkOk (I : amI) : Prop := ∃ k, k ≤ 16 ∧ I 67 0 = nI k
def m_monoP (I : amI) (L : amL) (a b : Nat) : Bool := m_am L (nI a) (nI b) && !m_amT I (m_map L (nI a)) (m_map L (nI b))
def m_mono1 (I : amI) (L : amL) (a : Nat) : Bool := scan (m_monoP I L a) (fun _ => true) false (mN L) 0
def m_mono (I : amI) (L : amL) : Bool := scan (m_mono1 I L) (fun _ => false) true (mN L) 0
def m_adj (I : amI) (L : amL) (y : Int32) : Int32 := m_great L (mkset (fun x => m_amT I (m_map L (nI x)) y) (mN L))
def m_jnd (I : amI) (L : amL) : Bool := scan (fun y => decide (m_adj I L (nI y) = -2)) (fun _ => false) true (I 67 0).toNatClampNeg 0
theorem in16_32 {x : Int32} (h : vp_in x 16) : vp_in x 32 := by
  obtain ⟨j, hj, rfl⟩ := vp_in_of h (by decide)
  exact in_nI (by omega) (by decide)
set_option maxRecDepth 100000 in
set_option maxHeartbeats 4000000 in
theorem b_X12_isWhole_0 {z : amZ} {post : amP} {G : amG} {I : amI} {L : amL} (hz : Go z cX12_isWhole RX12 2 (some .boolean) 1 0 0 post) (hG : Lay G)  (h : Wx z 0 0 2 [(0, .ref ((zB z).size + 64)), (1, .int 0)] [] G I L) : Wx z 0 0 0 [(0, .ref ((zB z).size + 64))] [] G I L := by
  have hz1 := hz.1
  refine am_iconst (v := 0) hz1 dX12_isWhole_0 (by decide) ?_
  refine am_istore_n (lv' := [(1, .int 0), (0, .ref ((zB z).size + 64))]) hz1 dX12_isWhole_1 rfl rfl rfl ?_
  exact am_sub (lv' := [(0, .ref ((zB z).size + 64)), (1, .int 0)]) [1, 0] rfl h
set_option maxRecDepth 100000 in
set_option maxHeartbeats 4000000 in
theorem b_X12_isWhole_2 {z : amZ} {post : amP} {G : amG} {I : amI} {L : amL} (hz : Go z cX12_isWhole RX12 2 (some .boolean) 1 0 0 post) (hG : Lay G) {v1 : Int32} (h : (((m_many L) ≤ v1) → post (some (.int 1)) G I L) ∧ ((¬ (m_many L) ≤ v1) → (vp_in v1 16) ∧ ((¬ (m_map L v1) = (-1 : Int32)) → Wx z 0 0 2 [(0, .ref ((zB z).size + 64)), (1, .int (v1 + 1))] [] G I L) ∧ (((m_map L v1) = (-1 : Int32)) → post (some (.int 0)) G I L))) : Wx z 0 0 2 [(0, .ref ((zB z).size + 64)), (1, .int v1)] [] G I L := by
  have hz1 := hz.1
  refine am_iload_n hz1 dX12_isWhole_2 1 rfl rfl ?_
  refine am_aload_n hz1 dX12_isWhole_3 0 rfl rfl ?_
  refine am_cVf hz cv_X12_78 [] [.int v1] (c_X12_many hG  ) (ln_64 hG) (lk_64 hG) rfl rfl rfl ⟨Nat.le_refl _, Nat.le_refl _⟩ (Nat.le_of_ble_eq_true rfl) dX12_isWhole_4 ?_
  refine am_icmp_ge (tgt := 27) hz1 dX12_isWhole_7 (by decide) (fun c1 => ?_) (fun c1 => ?_)
  · replace h := h.1 c1
    refine am_iconst (v := 1) hz1 dX12_isWhole_27 (by decide) ?_
    exact am_zreturn hz (by decide) dX12_isWhole_28 h
  · replace h := h.2 c1
    refine am_aload_n hz1 dX12_isWhole_10 0 rfl rfl ?_
    refine am_iload_n hz1 dX12_isWhole_11 1 rfl rfl ?_
    obtain ⟨g2, h⟩ := h
    refine am_cVf hz cv_X12_452 [.int v1] [] (c_X12_mapOf hG v1 g2) (ln_64 hG) (lk_64 hG) rfl rfl rfl ⟨Nat.le_refl _, Nat.le_refl _⟩ (Nat.le_of_ble_eq_true rfl) dX12_isWhole_12 ?_
    refine am_iconst (v := (-1)) hz1 dX12_isWhole_15 (by decide) ?_
    refine am_icmp_ne (tgt := 21) hz1 dX12_isWhole_16 (by decide) (fun c3 => ?_) (fun c3 => ?_)
    · replace h := h.1 c3
      refine am_iinc (v := v1 + 1) (lv' := [(1, .int (v1 + 1)), (0, .ref ((zB z).size + 64))]) hz1 dX12_isWhole_21 1 rfl rfl rfl rfl ?_
      refine am_goto (tgt := 2) hz1 dX12_isWhole_24 (by decide) ?_
      exact am_sub (lv' := [(0, .ref ((zB z).size + 64)), (1, .int (v1 + 1))]) [1, 0] rfl h
    · replace h := h.2 c3
      refine am_iconst (v := 0) hz1 dX12_isWhole_19 (by decide) ?_
      exact am_zreturn hz (by decide) dX12_isWhole_20 h
set_option maxRecDepth 100000 in
set_option maxHeartbeats 4000000 in
theorem c_X12_isWhole {l : Launch} {D : va_G} {B : Heap} {G : amG} {I : amI} {L : amL}  (hG : Lay G)   (hM : mOk L) : Fx l D B yX12_isWhole cX12_isWhole 2 (some .boolean) 1 [.ref (B.size + 64)] G I L (some (.int (bI (m_whole L)))) I L := by
  refine Mx.of (by decide) rfl rfl (fun z e1 e2 e3 hz => ?_)
  subst e1; subst e2; subst e3
  refine b_X12_isWhole_0 hz hG ?_
  obtain ⟨n, A, hM⟩ := hM
  have h16 := hM.2.1
  refine for_up (P := fun i => scan (fun x => decide (m_map L (nI x) = -1)) (fun _ => false) true (n - i) i = m_whole L → Wx z 0 0 2 [(0, .ref ((zB z).size + 64)), (1, .int (nI i))] [] G I L) (n := n) ?_ ?_ (Nat.zero_le _) (by rw [Nat.sub_zero, m_whole, hM.N])
  · intro e
    rw [scan_0] at e
    exact b_X12_isWhole_2 hz hG ⟨fun _ => ⟨by rw [← e]; rfl, rfl, rfl, rfl⟩, fun h => absurd (mm_le hM) h⟩
  · intro i hi ih e
    rw [scan_s hi] at e
    refine b_X12_isWhole_2 hz hG ⟨fun h => absurd h (mm_ge hM hi), fun _ => ⟨in16 h16 hi, fun q => ?_, fun q => ⟨?_, rfl, rfl, rfl⟩⟩⟩
    · rw [if_neg (by rw [decide_eq_false q]; decide)] at e
      rw [nI_1]
      exact ih e
    · rw [if_pos (decide_eq_true q)] at e
      rw [← e]; rfl
set_option maxRecDepth 100000 in
set_option maxHeartbeats 4000000 in
theorem b_X12_isMonotone_0 {z : amZ} {post : amP} {G : amG} {I : amI} {L : amL} (hz : Go z cX12_isMonotone RX12 3 (some .boolean) 2 0 0 post) (hG : Lay G)  (h : Wx z 0 0 2 [(0, .ref ((zB z).size + 64)), (1, .int 0)] [] G I L) : Wx z 0 0 0 [(0, .ref ((zB z).size + 64))] [] G I L := by
  have hz1 := hz.1
  refine am_iconst (v := 0) hz1 dX12_isMonotone_0 (by decide) ?_
  refine am_istore_n (lv' := [(1, .int 0), (0, .ref ((zB z).size + 64))]) hz1 dX12_isMonotone_1 rfl rfl rfl ?_
  exact am_sub (lv' := [(0, .ref ((zB z).size + 64)), (1, .int 0)]) [1, 0] rfl h
set_option maxRecDepth 100000 in
set_option maxHeartbeats 4000000 in
theorem b_X12_isMonotone_2 {z : amZ} {post : amP} {G : amG} {I : amI} {L : amL} (hz : Go z cX12_isMonotone RX12 3 (some .boolean) 2 0 0 post) (hG : Lay G) {v1 : Int32} (h : (((m_many L) ≤ v1) → post (some (.int 1)) G I L) ∧ ((¬ (m_many L) ≤ v1) → Wx z 0 0 12 [(0, .ref ((zB z).size + 64)), (1, .int v1), (2, .int 0)] [] G I L)) : Wx z 0 0 2 [(0, .ref ((zB z).size + 64)), (1, .int v1)] [] G I L := by
  have hz1 := hz.1
  refine am_iload_n hz1 dX12_isMonotone_2 1 rfl rfl ?_
  refine am_aload_n hz1 dX12_isMonotone_3 0 rfl rfl ?_
  refine am_cVf hz cv_X12_78 [] [.int v1] (c_X12_many hG  ) (ln_64 hG) (lk_64 hG) rfl rfl rfl ⟨Nat.le_refl _, Nat.le_refl _⟩ (Nat.le_of_ble_eq_true rfl) dX12_isMonotone_4 ?_
  refine am_icmp_ge (tgt := 60) hz1 dX12_isMonotone_7 (by decide) (fun c1 => ?_) (fun c1 => ?_)
  · replace h := h.1 c1
    refine am_iconst (v := 1) hz1 dX12_isMonotone_60 (by decide) ?_
    exact am_zreturn hz (by decide) dX12_isMonotone_61 h
  · replace h := h.2 c1
    refine am_iconst (v := 0) hz1 dX12_isMonotone_10 (by decide) ?_
    refine am_istore_n (lv' := [(2, .int 0), (0, .ref ((zB z).size + 64)), (1, .int v1)]) hz1 dX12_isMonotone_11 rfl rfl rfl ?_
    exact am_sub (lv' := [(0, .ref ((zB z).size + 64)), (1, .int v1), (2, .int 0)]) [1, 2, 0] rfl h
set_option maxRecDepth 100000 in
set_option maxHeartbeats 4000000 in
theorem b_X12_isMonotone_12 {z : amZ} {post : amP} {G : amG} {I : amI} {L : amL} (hz : Go z cX12_isMonotone RX12 3 (some .boolean) 2 0 0 post) (hG : Lay G) {v1 : Int32} {v2 : Int32} (h : (((m_many L) ≤ v2) → Wx z 0 0 2 [(0, .ref ((zB z).size + 64)), (1, .int (v1 + 1))] [] G I L) ∧ ((¬ (m_many L) ≤ v2) → (vp_in v1 16) ∧ ((m_am L v1 v2 = false) → Wx z 0 0 12 [(0, .ref ((zB z).size + 64)), (1, .int v1), (2, .int (v2 + 1))] [] G I L) ∧ ((m_am L v1 v2 = true) → (vp_in v1 16) ∧ (vp_in v2 16) ∧ (vp_in (m_map L v1) 32) ∧ ((m_amT I (m_map L v1) (m_map L v2) = true) → Wx z 0 0 12 [(0, .ref ((zB z).size + 64)), (1, .int v1), (2, .int (v2 + 1))] [] G I L) ∧ ((m_amT I (m_map L v1) (m_map L v2) = false) → post (some (.int 0)) G I L)))) : Wx z 0 0 12 [(0, .ref ((zB z).size + 64)), (1, .int v1), (2, .int v2)] [] G I L := by
  have hz1 := hz.1
  refine am_iload_n hz1 dX12_isMonotone_12 2 rfl rfl ?_
  refine am_aload_n hz1 dX12_isMonotone_13 0 rfl rfl ?_
  refine am_cVf hz cv_X12_78 [] [.int v2] (c_X12_many hG  ) (ln_64 hG) (lk_64 hG) rfl rfl rfl ⟨Nat.le_refl _, Nat.le_refl _⟩ (Nat.le_of_ble_eq_true rfl) dX12_isMonotone_14 ?_
  refine am_icmp_ge (tgt := 54) hz1 dX12_isMonotone_17 (by decide) (fun c1 => ?_) (fun c1 => ?_)
  · replace h := h.1 c1
    refine am_iinc (v := v1 + 1) (lv' := [(1, .int (v1 + 1)), (0, .ref ((zB z).size + 64)), (2, .int v2)]) hz1 dX12_isMonotone_54 1 rfl rfl rfl rfl ?_
    refine am_goto (tgt := 2) hz1 dX12_isMonotone_57 (by decide) ?_
    exact am_sub (lv' := [(0, .ref ((zB z).size + 64)), (1, .int (v1 + 1))]) [1, 0] rfl h
  · replace h := h.2 c1
    refine am_aload_n hz1 dX12_isMonotone_20 0 rfl rfl ?_
    refine am_iload_n hz1 dX12_isMonotone_21 1 rfl rfl ?_
    refine am_iload_n hz1 dX12_isMonotone_22 2 rfl rfl ?_
    obtain ⟨g2, h⟩ := h
    refine am_cVf hz cv_X12_94 [.int v1, .int v2] [] (c_X12_isAtMost hG v1 v2 g2) (ln_64 hG) (lk_64 hG) rfl rfl rfl ⟨Nat.le_refl _, Nat.le_refl _⟩ (Nat.le_of_ble_eq_true rfl) dX12_isMonotone_23 ?_
    refine am_ifb_eq (tgt := 48) hz1 dX12_isMonotone_26 (by decide) (fun c3 => ?_) (fun c3 => ?_)
    · replace h := h.1 c3
      refine am_iinc (v := v2 + 1) (lv' := [(2, .int (v2 + 1)), (0, .ref ((zB z).size + 64)), (1, .int v1)]) hz1 dX12_isMonotone_48 2 rfl rfl rfl rfl ?_
      refine am_goto (tgt := 12) hz1 dX12_isMonotone_51 (by decide) ?_
      exact am_sub (lv' := [(0, .ref ((zB z).size + 64)), (1, .int v1), (2, .int (v2 + 1))]) [1, 2, 0] rfl h
    · replace h := h.2 c3
      refine am_aload_n hz1 dX12_isMonotone_29 0 rfl rfl ?_
      refine am_aload_n hz1 dX12_isMonotone_30 0 rfl rfl ?_
      refine am_iload_n hz1 dX12_isMonotone_31 1 rfl rfl ?_
      obtain ⟨g4, h⟩ := h
      refine am_cVf hz cv_X12_452 [.int v1] [.ref ((zB z).size + 64)] (c_X12_mapOf hG v1 g4) (ln_64 hG) (lk_64 hG) rfl rfl rfl ⟨Nat.le_refl _, Nat.le_refl _⟩ (Nat.le_of_ble_eq_true rfl) dX12_isMonotone_32 ?_
      refine am_aload_n hz1 dX12_isMonotone_35 0 rfl rfl ?_
      refine am_iload_n hz1 dX12_isMonotone_36 2 rfl rfl ?_
      obtain ⟨g5, h⟩ := h
      refine am_cVf hz cv_X12_452 [.int v2] [.int (m_map L v1), .ref ((zB z).size + 64)] (c_X12_mapOf hG v2 g5) (ln_64 hG) (lk_64 hG) rfl rfl rfl ⟨Nat.le_refl _, Nat.le_refl _⟩ (Nat.le_of_ble_eq_true rfl) dX12_isMonotone_37 ?_
      obtain ⟨g6, h⟩ := h
      refine am_cVf hz cv_X12_455 [.int (m_map L v1), .int (m_map L v2)] [] (c_X12_isAtMostThere hG (m_map L v1) (m_map L v2) g6) (ln_64 hG) (lk_64 hG) rfl rfl rfl ⟨Nat.le_refl _, Nat.le_refl _⟩ (Nat.le_of_ble_eq_true rfl) dX12_isMonotone_40 ?_
      refine am_ifb_ne (tgt := 48) hz1 dX12_isMonotone_43 (by decide) (fun c7 => ?_) (fun c7 => ?_)
      · replace h := h.1 c7
        refine am_iinc (v := v2 + 1) (lv' := [(2, .int (v2 + 1)), (0, .ref ((zB z).size + 64)), (1, .int v1)]) hz1 dX12_isMonotone_48 2 rfl rfl rfl rfl ?_
        refine am_goto (tgt := 12) hz1 dX12_isMonotone_51 (by decide) ?_
        exact am_sub (lv' := [(0, .ref ((zB z).size + 64)), (1, .int v1), (2, .int (v2 + 1))]) [1, 2, 0] rfl h
      · replace h := h.2 c7
        refine am_iconst (v := 0) hz1 dX12_isMonotone_46 (by decide) ?_
        exact am_zreturn hz (by decide) dX12_isMonotone_47 h
set_option maxRecDepth 100000 in
set_option maxHeartbeats 4000000 in
theorem c_X12_isMonotone {l : Launch} {D : va_G} {B : Heap} {G : amG} {I : amI} {L : amL}  (hG : Lay G)   (hM : mOk L) (hp : mpOk L) : Fx l D B yX12_isMonotone cX12_isMonotone 3 (some .boolean) 2 [.ref (B.size + 64)] G I L (some (.int (bI (m_mono I L)))) I L := by
  refine Mx.of (by decide) rfl rfl (fun z e1 e2 e3 hz => ?_)
  subst e1; subst e2; subst e3
  refine b_X12_isMonotone_0 hz hG ?_
  obtain ⟨n, A, hM⟩ := hM
  have h16 := hM.2.1
  have hp' : ∀ x, x < n → vp_in (m_map L (nI x)) 32 := fun x hx => in16_32 (hp x (by rw [hM.N]; exact hx))
  refine for_up (P := fun i => scan (m_mono1 I L) (fun _ => false) true (n - i) i = m_mono I L → Wx z 0 0 2 [(0, .ref ((zB z).size + 64)), (1, .int (nI i))] [] G I L) (n := n) ?_ ?_ (Nat.zero_le _) (by rw [Nat.sub_zero, m_mono, hM.N])
  · intro e
    rw [scan_0] at e
    exact b_X12_isMonotone_2 hz hG ⟨fun _ => ⟨by rw [← e]; rfl, rfl, rfl, rfl⟩, fun h => absurd (mm_le hM) h⟩
  · intro i hi ih e
    rw [scan_s hi] at e
    refine b_X12_isMonotone_2 hz hG ⟨fun h => absurd h (mm_ge hM hi), fun _ => ?_⟩
    refine for_up (P := fun j => scan (m_monoP I L i) (fun _ => true) false (n - j) j = m_mono1 I L i → Wx z 0 0 12 [(0, .ref ((zB z).size + 64)), (1, .int (nI i)), (2, .int (nI j))] [] G I L) (n := n) ?_ ?_ (Nat.zero_le _) (by rw [Nat.sub_zero, m_mono1, hM.N])
    · intro e6
      rw [scan_0] at e6
      refine b_X12_isMonotone_12 hz hG ⟨fun _ => ?_, fun h => absurd (mm_le hM) h⟩
      rw [if_neg (by rw [← e6]; decide)] at e
      rw [nI_1]
      exact ih e
    · intro j hj jh e6
      rw [scan_s hj] at e6
      refine b_X12_isMonotone_12 hz hG ⟨fun h => absurd h (mm_ge hM hj), fun _ => ⟨in16 h16 hi, fun g => ?_, fun g => ⟨in16 h16 hi, in16 h16 hj, hp' i hi, fun g2 => ?_, fun g2 => ⟨?_, rfl, rfl, rfl⟩⟩⟩⟩
      · rw [if_neg (by rw [m_monoP, g]; simp)] at e6
        rw [nI_1]
        exact jh e6
      · rw [if_neg (by rw [m_monoP, g2]; simp)] at e6
        rw [nI_1]
        exact jh e6
      · rw [if_pos (by rw [m_monoP, g, g2]; rfl)] at e6
        rw [if_pos e6.symm] at e
        rw [← e]; rfl
set_option maxRecDepth 100000 in
set_option maxHeartbeats 4000000 in
theorem b_X12_adjointOf_0 {z : amZ} {post : amP} {G : amG} {I : amI} {L : amL} (hz : Go z cX12_adjointOf RX12 4 (some .int) 4 0 0 post) (hG : Lay G) {v1 : Int32} (h : Wx z 0 0 4 [(0, .ref ((zB z).size + 64)), (1, .int v1), (2, .int 0), (3, .int 0)] [] G I L) : Wx z 0 0 0 [(0, .ref ((zB z).size + 64)), (1, .int v1)] [] G I L := by
  have hz1 := hz.1
  refine am_iconst (v := 0) hz1 dX12_adjointOf_0 (by decide) ?_
  refine am_istore_n (lv' := [(2, .int 0), (0, .ref ((zB z).size + 64)), (1, .int v1)]) hz1 dX12_adjointOf_1 rfl rfl rfl ?_
  refine am_iconst (v := 0) hz1 dX12_adjointOf_2 (by decide) ?_
  refine am_istore_n (lv' := [(3, .int 0), (2, .int 0), (0, .ref ((zB z).size + 64)), (1, .int v1)]) hz1 dX12_adjointOf_3 rfl rfl rfl ?_
  exact am_sub (lv' := [(0, .ref ((zB z).size + 64)), (1, .int v1), (2, .int 0), (3, .int 0)]) [2, 3, 1, 0] rfl h
set_option maxRecDepth 100000 in
set_option maxHeartbeats 4000000 in
theorem b_X12_adjointOf_4 {z : amZ} {post : amP} {G : amG} {I : amI} {L : amL} (hz : Go z cX12_adjointOf RX12 4 (some .int) 4 0 0 post) (hG : Lay G) {v1 : Int32} {v2 : Int32} {v3 : Int32} (h : (((m_many L) ≤ v3) → (mOk L) ∧ post (some (.int (m_great L v2))) G I L) ∧ ((¬ (m_many L) ≤ v3) → (vp_in v3 16) ∧ (vp_in (m_map L v3) 32) ∧ ((m_amT I (m_map L v3) v1 = false) → Wx z 0 0 4 [(0, .ref ((zB z).size + 64)), (1, .int v1), (2, .int (v2 ||| (0 : Int32))), (3, .int (v3 + 1))] [] G I L) ∧ ((m_amT I (m_map L v3) v1 = true) → Wx z 0 0 4 [(0, .ref ((zB z).size + 64)), (1, .int v1), (2, .int (v2 ||| ((1 : Int32) <<< (v3 &&& 31)))), (3, .int (v3 + 1))] [] G I L))) : Wx z 0 0 4 [(0, .ref ((zB z).size + 64)), (1, .int v1), (2, .int v2), (3, .int v3)] [] G I L := by
  have hz1 := hz.1
  refine am_iload_n hz1 dX12_adjointOf_4 3 rfl rfl ?_
  refine am_aload_n hz1 dX12_adjointOf_5 0 rfl rfl ?_
  refine am_cVf hz cv_X12_78 [] [.int v3] (c_X12_many hG  ) (ln_64 hG) (lk_64 hG) rfl rfl rfl ⟨Nat.le_refl _, Nat.le_refl _⟩ (Nat.le_of_ble_eq_true rfl) dX12_adjointOf_6 ?_
  refine am_icmp_ge (tgt := 41) hz1 dX12_adjointOf_9 (by decide) (fun c1 => ?_) (fun c1 => ?_)
  · replace h := h.1 c1
    refine am_aload_n hz1 dX12_adjointOf_41 0 rfl rfl ?_
    refine am_iload_n hz1 dX12_adjointOf_42 2 rfl rfl ?_
    obtain ⟨g2, h⟩ := h
    refine am_cVf hz cv_X12_350 [.int v2] [] (c_X12_greatestOf hG v2 g2) (ln_64 hG) (lk_64 hG) rfl rfl rfl ⟨Nat.le_refl _, Nat.le_refl _⟩ (Nat.le_of_ble_eq_true rfl) dX12_adjointOf_43 ?_
    exact am_ireturn hz dX12_adjointOf_46 h
  · replace h := h.2 c1
    refine am_iload_n hz1 dX12_adjointOf_12 2 rfl rfl ?_
    refine am_aload_n hz1 dX12_adjointOf_13 0 rfl rfl ?_
    refine am_aload_n hz1 dX12_adjointOf_14 0 rfl rfl ?_
    refine am_iload_n hz1 dX12_adjointOf_15 3 rfl rfl ?_
    obtain ⟨g3, h⟩ := h
    refine am_cVf hz cv_X12_452 [.int v3] [.ref ((zB z).size + 64), .int v2] (c_X12_mapOf hG v3 g3) (ln_64 hG) (lk_64 hG) rfl rfl rfl ⟨Nat.le_refl _, Nat.le_refl _⟩ (Nat.le_of_ble_eq_true rfl) dX12_adjointOf_16 ?_
    refine am_iload_n hz1 dX12_adjointOf_19 1 rfl rfl ?_
    obtain ⟨g4, h⟩ := h
    refine am_cVf hz cv_X12_455 [.int (m_map L v3), .int v1] [.int v2] (c_X12_isAtMostThere hG (m_map L v3) v1 g4) (ln_64 hG) (lk_64 hG) rfl rfl rfl ⟨Nat.le_refl _, Nat.le_refl _⟩ (Nat.le_of_ble_eq_true rfl) dX12_adjointOf_20 ?_
    refine am_ifb_eq (tgt := 32) hz1 dX12_adjointOf_23 (by decide) (fun c5 => ?_) (fun c5 => ?_)
    · replace h := h.1 c5
      refine am_iconst (v := 0) hz1 dX12_adjointOf_32 (by decide) ?_
      refine am_ior hz1 dX12_adjointOf_33 ?_
      refine am_istore_n (lv' := [(2, .int (v2 ||| (0 : Int32))), (0, .ref ((zB z).size + 64)), (1, .int v1), (3, .int v3)]) hz1 dX12_adjointOf_34 rfl rfl rfl ?_
      refine am_iinc (v := v3 + 1) (lv' := [(3, .int (v3 + 1)), (2, .int (v2 ||| (0 : Int32))), (0, .ref ((zB z).size + 64)), (1, .int v1)]) hz1 dX12_adjointOf_35 3 rfl rfl rfl rfl ?_
      refine am_goto (tgt := 4) hz1 dX12_adjointOf_38 (by decide) ?_
      exact am_sub (lv' := [(0, .ref ((zB z).size + 64)), (1, .int v1), (2, .int (v2 ||| (0 : Int32))), (3, .int (v3 + 1))]) [2, 3, 1, 0] rfl h
    · replace h := h.2 c5
      refine am_iconst (v := 1) hz1 dX12_adjointOf_26 (by decide) ?_
      refine am_iload_n hz1 dX12_adjointOf_27 3 rfl rfl ?_
      refine am_ishl hz1 dX12_adjointOf_28 ?_
      refine am_goto (tgt := 33) hz1 dX12_adjointOf_29 (by decide) ?_
      refine am_ior hz1 dX12_adjointOf_33 ?_
      refine am_istore_n (lv' := [(2, .int (v2 ||| ((1 : Int32) <<< (v3 &&& 31)))), (0, .ref ((zB z).size + 64)), (1, .int v1), (3, .int v3)]) hz1 dX12_adjointOf_34 rfl rfl rfl ?_
      refine am_iinc (v := v3 + 1) (lv' := [(3, .int (v3 + 1)), (2, .int (v2 ||| ((1 : Int32) <<< (v3 &&& 31)))), (0, .ref ((zB z).size + 64)), (1, .int v1)]) hz1 dX12_adjointOf_35 3 rfl rfl rfl rfl ?_
      refine am_goto (tgt := 4) hz1 dX12_adjointOf_38 (by decide) ?_
      exact am_sub (lv' := [(0, .ref ((zB z).size + 64)), (1, .int v1), (2, .int (v2 ||| ((1 : Int32) <<< (v3 &&& 31)))), (3, .int (v3 + 1))]) [2, 3, 1, 0] rfl h
set_option maxRecDepth 100000 in
set_option maxHeartbeats 4000000 in
theorem c_X12_adjointOf {l : Launch} {D : va_G} {B : Heap} {G : amG} {I : amI} {L : amL}  (hG : Lay G)  (v1 : Int32) (hM : mOk L) (hp : mpOk L) : Fx l D B yX12_adjointOf cX12_adjointOf 4 (some .int) 4 [.ref (B.size + 64), .int v1] G I L (some (.int (m_adj I L v1))) I L := by
  refine Mx.of (by decide) rfl rfl (fun z e1 e2 e3 hz => ?_)
  subst e1; subst e2; subst e3
  refine b_X12_adjointOf_0 hz hG ?_
  have hO := hM
  obtain ⟨n, A, hM⟩ := hM
  have h16 := hM.2.1
  have hp' : ∀ x, x < n → vp_in (m_map L (nI x)) 32 := fun x hx => in16_32 (hp x (by rw [hM.N]; exact hx))
  refine for_up (P := fun i => Wx z 0 0 4 [(0, .ref ((zB z).size + 64)), (1, .int v1), (2, .int (mkset (fun x => m_amT I (m_map L (nI x)) v1) i)), (3, .int (nI i))] [] G I L) (n := n) ?_ ?_ (Nat.zero_le _)
  · exact b_X12_adjointOf_4 hz hG ⟨fun _ => ⟨hO, by rw [m_adj, hM.N], rfl, rfl, rfl⟩, fun h => absurd (mm_le hM) h⟩
  · intro i hi ih
    refine b_X12_adjointOf_4 hz hG ⟨fun h => absurd h (mm_ge hM hi), fun _ => ⟨in16 h16 hi, hp' i hi, fun g => ?_, fun g => ?_⟩⟩
    · rw [mkset, if_neg (by rw [g]; decide)] at ih
      rw [nI_1]
      exact ih
    · rw [mkset, if_pos g] at ih
      rw [nI_1]
      exact ih
theorem tk_ge {I : amI} {k i : Nat} (h : I 67 0 = nI k) (hk : k ≤ 16) (hi : i < k) : ¬ I 67 (0 : Int32).toNatClampNeg ≤ nI i := by
  show ¬ I 67 0 ≤ nI i
  rw [h]; exact nI_ge hi (by omega)
theorem tk_le {I : amI} {k : Nat} (h : I 67 0 = nI k) (hk : k ≤ 16) : I 67 (0 : Int32).toNatClampNeg ≤ nI k := by
  show I 67 0 ≤ nI k
  rw [h]; exact nI_le (Nat.le_refl _) (by omega)
set_option maxRecDepth 100000 in
set_option maxHeartbeats 4000000 in
theorem b_X12_isJoined_0 {z : amZ} {post : amP} {G : amG} {I : amI} {L : amL} (hz : Go z cX12_isJoined RX12 2 (some .boolean) 5 0 0 post) (hG : Lay G)  (h : Wx z 0 0 2 [(0, .ref ((zB z).size + 64)), (1, .int 0)] [] G I L) : Wx z 0 0 0 [(0, .ref ((zB z).size + 64))] [] G I L := by
  have hz1 := hz.1
  refine am_iconst (v := 0) hz1 dX12_isJoined_0 (by decide) ?_
  refine am_istore_n (lv' := [(1, .int 0), (0, .ref ((zB z).size + 64))]) hz1 dX12_isJoined_1 rfl rfl rfl ?_
  exact am_sub (lv' := [(0, .ref ((zB z).size + 64)), (1, .int 0)]) [1, 0] rfl h
set_option maxRecDepth 100000 in
set_option maxHeartbeats 4000000 in
theorem b_X12_isJoined_2 {z : amZ} {post : amP} {G : amG} {I : amI} {L : amL} (hz : Go z cX12_isJoined RX12 2 (some .boolean) 5 0 0 post) (hG : Lay G) {v1 : Int32} (h : (((I 67 (0 : Int32).toNatClampNeg) ≤ v1) → post (some (.int 1)) G I L) ∧ ((¬ (I 67 (0 : Int32).toNatClampNeg) ≤ v1) → (mOk L) ∧ (mpOk L) ∧ ((¬ (m_adj I L v1) = (-2 : Int32)) → Wx z 0 0 2 [(0, .ref ((zB z).size + 64)), (1, .int (v1 + 1))] [] G I L) ∧ (((m_adj I L v1) = (-2 : Int32)) → post (some (.int 0)) G I L))) : Wx z 0 0 2 [(0, .ref ((zB z).size + 64)), (1, .int v1)] [] G I L := by
  have hz1 := hz.1
  refine am_iload_n hz1 dX12_isJoined_2 1 rfl rfl ?_
  refine am_aload_n hz1 dX12_isJoined_3 0 rfl rfl ?_
  refine am_getR hz1 fl_X12_18 (ln_64 hG) (lk_64 hG) (lr_64_3 hG) rfl dX12_isJoined_4 ?_
  refine am_iconst (v := 0) hz1 dX12_isJoined_7 (by decide) ?_
  refine am_iald hz1 (ln_67 hG) (lk_67 hG) (by rw [(ll_67 hG)]; exact in_nI (n := 0) (by decide) (by decide)) dX12_isJoined_8 ?_
  refine am_icmp_ge (tgt := 30) hz1 dX12_isJoined_9 (by decide) (fun c2 => ?_) (fun c2 => ?_)
  · replace h := h.1 c2
    refine am_iconst (v := 1) hz1 dX12_isJoined_30 (by decide) ?_
    exact am_zreturn hz (by decide) dX12_isJoined_31 h
  · replace h := h.2 c2
    refine am_aload_n hz1 dX12_isJoined_12 0 rfl rfl ?_
    refine am_iload_n hz1 dX12_isJoined_13 1 rfl rfl ?_
    obtain ⟨g3, h⟩ := h
    obtain ⟨g4, h⟩ := h
    refine am_cVf hz cv_X12_458 [.int v1] [] (c_X12_adjointOf hG v1 g3 g4) (ln_64 hG) (lk_64 hG) rfl rfl rfl ⟨Nat.le_refl _, Nat.le_refl _⟩ (Nat.le_of_ble_eq_true rfl) dX12_isJoined_14 ?_
    refine am_bipush (v := (-2)) hz1 dX12_isJoined_17 (by decide) ?_
    refine am_icmp_ne (tgt := 24) hz1 dX12_isJoined_19 (by decide) (fun c5 => ?_) (fun c5 => ?_)
    · replace h := h.1 c5
      refine am_iinc (v := v1 + 1) (lv' := [(1, .int (v1 + 1)), (0, .ref ((zB z).size + 64))]) hz1 dX12_isJoined_24 1 rfl rfl rfl rfl ?_
      refine am_goto (tgt := 2) hz1 dX12_isJoined_27 (by decide) ?_
      exact am_sub (lv' := [(0, .ref ((zB z).size + 64)), (1, .int (v1 + 1))]) [1, 0] rfl h
    · replace h := h.2 c5
      refine am_iconst (v := 0) hz1 dX12_isJoined_22 (by decide) ?_
      exact am_zreturn hz (by decide) dX12_isJoined_23 h
set_option maxRecDepth 100000 in
set_option maxHeartbeats 4000000 in
theorem c_X12_isJoined {l : Launch} {D : va_G} {B : Heap} {G : amG} {I : amI} {L : amL}  (hG : Lay G)   (hM : mOk L) (hp : mpOk L) (ht : tkOk I) : Fx l D B yX12_isJoined cX12_isJoined 2 (some .boolean) 5 [.ref (B.size + 64)] G I L (some (.int (bI (m_jnd I L)))) I L := by
  refine Mx.of (by decide) rfl rfl (fun z e1 e2 e3 hz => ?_)
  subst e1; subst e2; subst e3
  refine b_X12_isJoined_0 hz hG ?_
  obtain ⟨k, hk, ek⟩ := ht
  refine for_up (P := fun i => scan (fun y => decide (m_adj I L (nI y) = -2)) (fun _ => false) true (k - i) i = m_jnd I L → Wx z 0 0 2 [(0, .ref ((zB z).size + 64)), (1, .int (nI i))] [] G I L) (n := k) ?_ ?_ (Nat.zero_le _) (by rw [Nat.sub_zero, m_jnd, ek, cl_nI (by omega)])
  · intro e
    rw [scan_0] at e
    exact b_X12_isJoined_2 hz hG ⟨fun _ => ⟨by rw [← e]; rfl, rfl, rfl, rfl⟩, fun h => absurd (tk_le ek hk) h⟩
  · intro i hi ih e
    rw [scan_s hi] at e
    refine b_X12_isJoined_2 hz hG ⟨fun h => absurd h (tk_ge ek hk hi), fun _ => ⟨hM, hp, fun q => ?_, fun q => ⟨?_, rfl, rfl, rfl⟩⟩⟩
    · rw [if_neg (by rw [decide_eq_false q]; decide)] at e
      rw [nI_1]
      exact ih e
    · rw [if_pos (decide_eq_true q)] at e
      rw [← e]; rfl
set_option maxRecDepth 100000 in
set_option maxHeartbeats 4000000 in
theorem b_X12_sizeThere_0 {z : amZ} {post : amP} {G : amG} {I : amI} {L : amL} (hz : Go z cX12_sizeThere RX12 5 (some .int) 2 0 0 post) (hG : Lay G) {v1 : Int32} {v2 : Int32} (h : Wx z 0 0 5 [(0, .ref ((zB z).size + 64)), (1, .int v1), (2, .int v2), (3, .int 0), (4, .int 0)] [] G I L) : Wx z 0 0 0 [(0, .ref ((zB z).size + 64)), (1, .int v1), (2, .int v2)] [] G I L := by
  have hz1 := hz.1
  refine am_iconst (v := 0) hz1 dX12_sizeThere_0 (by decide) ?_
  refine am_istore_n (lv' := [(3, .int 0), (0, .ref ((zB z).size + 64)), (1, .int v1), (2, .int v2)]) hz1 dX12_sizeThere_1 rfl rfl rfl ?_
  refine am_iconst (v := 0) hz1 dX12_sizeThere_2 (by decide) ?_
  refine am_istore (lv' := [(4, .int 0), (3, .int 0), (0, .ref ((zB z).size + 64)), (1, .int v1), (2, .int v2)]) hz1 dX12_sizeThere_3 rfl rfl ?_
  exact am_sub (lv' := [(0, .ref ((zB z).size + 64)), (1, .int v1), (2, .int v2), (3, .int 0), (4, .int 0)]) [2, 3, 4, 1, 0] rfl h
set_option maxRecDepth 100000 in
set_option maxHeartbeats 4000000 in
theorem b_X12_sizeThere_5 {z : amZ} {post : amP} {G : amG} {I : amI} {L : amL} (hz : Go z cX12_sizeThere RX12 5 (some .int) 2 0 0 post) (hG : Lay G) {v1 : Int32} {v2 : Int32} {v3 : Int32} {v4 : Int32} (h : (((I 67 (0 : Int32).toNatClampNeg) ≤ v4) → post (some (.int v3)) G I L) ∧ ((¬ (I 67 (0 : Int32).toNatClampNeg) ≤ v4) → (vp_in v1 32) ∧ ((m_amT I v1 v4 = false) → Wx z 0 0 5 [(0, .ref ((zB z).size + 64)), (1, .int v1), (2, .int v2), (3, .int (v3 + (0 : Int32))), (4, .int (v4 + 1))] [] G I L) ∧ ((m_amT I v1 v4 = true) → (vp_in v4 32) ∧ ((m_amT I v4 v2 = false) → Wx z 0 0 5 [(0, .ref ((zB z).size + 64)), (1, .int v1), (2, .int v2), (3, .int (v3 + (0 : Int32))), (4, .int (v4 + 1))] [] G I L) ∧ ((m_amT I v4 v2 = true) → Wx z 0 0 5 [(0, .ref ((zB z).size + 64)), (1, .int v1), (2, .int v2), (3, .int (v3 + (1 : Int32))), (4, .int (v4 + 1))] [] G I L)))) : Wx z 0 0 5 [(0, .ref ((zB z).size + 64)), (1, .int v1), (2, .int v2), (3, .int v3), (4, .int v4)] [] G I L := by
  have hz1 := hz.1
  refine am_iload hz1 dX12_sizeThere_5 4 rfl ?_
  refine am_aload_n hz1 dX12_sizeThere_7 0 rfl rfl ?_
  refine am_getR hz1 fl_X12_18 (ln_64 hG) (lk_64 hG) (lr_64_3 hG) rfl dX12_sizeThere_8 ?_
  refine am_iconst (v := 0) hz1 dX12_sizeThere_11 (by decide) ?_
  refine am_iald hz1 (ln_67 hG) (lk_67 hG) (by rw [(ll_67 hG)]; exact in_nI (n := 0) (by decide) (by decide)) dX12_sizeThere_12 ?_
  refine am_icmp_ge (tgt := 50) hz1 dX12_sizeThere_13 (by decide) (fun c2 => ?_) (fun c2 => ?_)
  · replace h := h.1 c2
    refine am_iload_n hz1 dX12_sizeThere_50 3 rfl rfl ?_
    exact am_ireturn hz dX12_sizeThere_51 h
  · replace h := h.2 c2
    refine am_iload_n hz1 dX12_sizeThere_16 3 rfl rfl ?_
    refine am_aload_n hz1 dX12_sizeThere_17 0 rfl rfl ?_
    refine am_iload_n hz1 dX12_sizeThere_18 1 rfl rfl ?_
    refine am_iload hz1 dX12_sizeThere_19 4 rfl ?_
    obtain ⟨g3, h⟩ := h
    refine am_cVf hz cv_X12_455 [.int v1, .int v4] [.int v3] (c_X12_isAtMostThere hG v1 v4 g3) (ln_64 hG) (lk_64 hG) rfl rfl rfl ⟨Nat.le_refl _, Nat.le_refl _⟩ (Nat.le_of_ble_eq_true rfl) dX12_sizeThere_21 ?_
    refine am_ifb_eq (tgt := 41) hz1 dX12_sizeThere_24 (by decide) (fun c4 => ?_) (fun c4 => ?_)
    · replace h := h.1 c4
      refine am_iconst (v := 0) hz1 dX12_sizeThere_41 (by decide) ?_
      refine am_iadd hz1 dX12_sizeThere_42 ?_
      refine am_istore_n (lv' := [(3, .int (v3 + (0 : Int32))), (0, .ref ((zB z).size + 64)), (1, .int v1), (2, .int v2), (4, .int v4)]) hz1 dX12_sizeThere_43 rfl rfl rfl ?_
      refine am_iinc (v := v4 + 1) (lv' := [(4, .int (v4 + 1)), (3, .int (v3 + (0 : Int32))), (0, .ref ((zB z).size + 64)), (1, .int v1), (2, .int v2)]) hz1 dX12_sizeThere_44 4 rfl rfl rfl rfl ?_
      refine am_goto (tgt := 5) hz1 dX12_sizeThere_47 (by decide) ?_
      exact am_sub (lv' := [(0, .ref ((zB z).size + 64)), (1, .int v1), (2, .int v2), (3, .int (v3 + (0 : Int32))), (4, .int (v4 + 1))]) [2, 3, 4, 1, 0] rfl h
    · replace h := h.2 c4
      refine am_aload_n hz1 dX12_sizeThere_27 0 rfl rfl ?_
      refine am_iload hz1 dX12_sizeThere_28 4 rfl ?_
      refine am_iload_n hz1 dX12_sizeThere_30 2 rfl rfl ?_
      obtain ⟨g5, h⟩ := h
      refine am_cVf hz cv_X12_455 [.int v4, .int v2] [.int v3] (c_X12_isAtMostThere hG v4 v2 g5) (ln_64 hG) (lk_64 hG) rfl rfl rfl ⟨Nat.le_refl _, Nat.le_refl _⟩ (Nat.le_of_ble_eq_true rfl) dX12_sizeThere_31 ?_
      refine am_ifb_eq (tgt := 41) hz1 dX12_sizeThere_34 (by decide) (fun c6 => ?_) (fun c6 => ?_)
      · replace h := h.1 c6
        refine am_iconst (v := 0) hz1 dX12_sizeThere_41 (by decide) ?_
        refine am_iadd hz1 dX12_sizeThere_42 ?_
        refine am_istore_n (lv' := [(3, .int (v3 + (0 : Int32))), (0, .ref ((zB z).size + 64)), (1, .int v1), (2, .int v2), (4, .int v4)]) hz1 dX12_sizeThere_43 rfl rfl rfl ?_
        refine am_iinc (v := v4 + 1) (lv' := [(4, .int (v4 + 1)), (3, .int (v3 + (0 : Int32))), (0, .ref ((zB z).size + 64)), (1, .int v1), (2, .int v2)]) hz1 dX12_sizeThere_44 4 rfl rfl rfl rfl ?_
        refine am_goto (tgt := 5) hz1 dX12_sizeThere_47 (by decide) ?_
        exact am_sub (lv' := [(0, .ref ((zB z).size + 64)), (1, .int v1), (2, .int v2), (3, .int (v3 + (0 : Int32))), (4, .int (v4 + 1))]) [2, 3, 4, 1, 0] rfl h
      · replace h := h.2 c6
        refine am_iconst (v := 1) hz1 dX12_sizeThere_37 (by decide) ?_
        refine am_goto (tgt := 42) hz1 dX12_sizeThere_38 (by decide) ?_
        refine am_iadd hz1 dX12_sizeThere_42 ?_
        refine am_istore_n (lv' := [(3, .int (v3 + (1 : Int32))), (0, .ref ((zB z).size + 64)), (1, .int v1), (2, .int v2), (4, .int v4)]) hz1 dX12_sizeThere_43 rfl rfl rfl ?_
        refine am_iinc (v := v4 + 1) (lv' := [(4, .int (v4 + 1)), (3, .int (v3 + (1 : Int32))), (0, .ref ((zB z).size + 64)), (1, .int v1), (2, .int v2)]) hz1 dX12_sizeThere_44 4 rfl rfl rfl rfl ?_
        refine am_goto (tgt := 5) hz1 dX12_sizeThere_47 (by decide) ?_
        exact am_sub (lv' := [(0, .ref ((zB z).size + 64)), (1, .int v1), (2, .int v2), (3, .int (v3 + (1 : Int32))), (4, .int (v4 + 1))]) [2, 3, 4, 1, 0] rfl h
set_option maxRecDepth 100000 in
set_option maxHeartbeats 4000000 in
theorem c_X12_sizeThere {l : Launch} {D : va_G} {B : Heap} {G : amG} {I : amI} {L : amL}  (hG : Lay G)  (v1 : Int32) (v2 : Int32) (ht : tkOk I) (hy : vp_in v1 32) : Fx l D B yX12_sizeThere cX12_sizeThere 5 (some .int) 2 [.ref (B.size + 64), .int v1, .int v2] G I L (some (.int (cntI (fun z => m_amT I v1 (nI z) && m_amT I (nI z) v2) (I 67 0).toNatClampNeg))) I L := by
  refine Mx.of (by decide) rfl rfl (fun z e1 e2 e3 hz => ?_)
  subst e1; subst e2; subst e3
  refine b_X12_sizeThere_0 hz hG ?_
  obtain ⟨k, hk, ek⟩ := ht
  refine for_up (P := fun i => Wx z 0 0 5 [(0, .ref ((zB z).size + 64)), (1, .int v1), (2, .int v2), (3, .int (cntI (fun z => m_amT I v1 (nI z) && m_amT I (nI z) v2) i)), (4, .int (nI i))] [] G I L) (n := k) ?_ ?_ (Nat.zero_le _)
  · exact b_X12_sizeThere_5 hz hG ⟨fun _ => ⟨by rw [ek, cl_nI (by omega)], rfl, rfl, rfl⟩, fun h => absurd (tk_le ek hk) h⟩
  · intro i hi ih
    refine b_X12_sizeThere_5 hz hG ⟨fun h => absurd h (tk_ge ek hk hi), fun _ => ⟨hy, fun g => ?_, fun g => ⟨in_nI (by omega) (by decide), fun g2 => ?_, fun g2 => ?_⟩⟩⟩
    · rw [cntI, if_neg (by rw [g]; simp)] at ih
      rw [nI_1, Int32.add_zero]
      exact ih
    · rw [cntI, if_neg (by rw [g2]; simp)] at ih
      rw [nI_1, Int32.add_zero]
      exact ih
    · rw [cntI, if_pos (by rw [g, g2]; rfl)] at ih
      rw [nI_1]
      exact ih
def m_allJP (L : amL) (x y : Nat) : Bool := decide (m_least L (m_up L (nI x) &&& m_up L (nI y)) = -2) || decide (m_great L (m_dn L (nI x) &&& m_dn L (nI y)) = -2)
def m_allJ1 (L : amL) (x : Nat) : Bool := scan (m_allJP L x) (fun _ => true) false x 0
def m_allJ (L : amL) : Bool := scan (m_allJ1 L) (fun _ => false) true (mN L) 0
set_option maxRecDepth 100000 in
set_option maxHeartbeats 4000000 in
theorem b_X12_areAllJoined_0 {z : amZ} {post : amP} {G : amG} {I : amI} {L : amL} (hz : Go z cX12_areAllJoined RX12 3 (some .boolean) 5 0 0 post) (hG : Lay G)  (h : Wx z 0 0 2 [(0, .ref ((zB z).size + 64)), (1, .int 0)] [] G I L) : Wx z 0 0 0 [(0, .ref ((zB z).size + 64))] [] G I L := by
  have hz1 := hz.1
  refine am_iconst (v := 0) hz1 dX12_areAllJoined_0 (by decide) ?_
  refine am_istore_n (lv' := [(1, .int 0), (0, .ref ((zB z).size + 64))]) hz1 dX12_areAllJoined_1 rfl rfl rfl ?_
  exact am_sub (lv' := [(0, .ref ((zB z).size + 64)), (1, .int 0)]) [1, 0] rfl h
set_option maxRecDepth 100000 in
set_option maxHeartbeats 4000000 in
theorem b_X12_areAllJoined_2 {z : amZ} {post : amP} {G : amG} {I : amI} {L : amL} (hz : Go z cX12_areAllJoined RX12 3 (some .boolean) 5 0 0 post) (hG : Lay G) {v1 : Int32} (h : (((m_many L) ≤ v1) → post (some (.int 1)) G I L) ∧ ((¬ (m_many L) ≤ v1) → Wx z 0 0 12 [(0, .ref ((zB z).size + 64)), (1, .int v1), (2, .int 0)] [] G I L)) : Wx z 0 0 2 [(0, .ref ((zB z).size + 64)), (1, .int v1)] [] G I L := by
  have hz1 := hz.1
  refine am_iload_n hz1 dX12_areAllJoined_2 1 rfl rfl ?_
  refine am_aload_n hz1 dX12_areAllJoined_3 0 rfl rfl ?_
  refine am_cVf hz cv_X12_78 [] [.int v1] (c_X12_many hG  ) (ln_64 hG) (lk_64 hG) rfl rfl rfl ⟨Nat.le_refl _, Nat.le_refl _⟩ (Nat.le_of_ble_eq_true rfl) dX12_areAllJoined_4 ?_
  refine am_icmp_ge (tgt := 53) hz1 dX12_areAllJoined_7 (by decide) (fun c1 => ?_) (fun c1 => ?_)
  · replace h := h.1 c1
    refine am_iconst (v := 1) hz1 dX12_areAllJoined_53 (by decide) ?_
    exact am_zreturn hz (by decide) dX12_areAllJoined_54 h
  · replace h := h.2 c1
    refine am_iconst (v := 0) hz1 dX12_areAllJoined_10 (by decide) ?_
    refine am_istore_n (lv' := [(2, .int 0), (0, .ref ((zB z).size + 64)), (1, .int v1)]) hz1 dX12_areAllJoined_11 rfl rfl rfl ?_
    exact am_sub (lv' := [(0, .ref ((zB z).size + 64)), (1, .int v1), (2, .int 0)]) [1, 2, 0] rfl h
set_option maxRecDepth 100000 in
set_option maxHeartbeats 4000000 in
theorem b_X12_areAllJoined_12 {z : amZ} {post : amP} {G : amG} {I : amI} {L : amL} (hz : Go z cX12_areAllJoined RX12 3 (some .boolean) 5 0 0 post) (hG : Lay G) {v1 : Int32} {v2 : Int32} (h : ((v1 ≤ v2) → Wx z 0 0 2 [(0, .ref ((zB z).size + 64)), (1, .int (v1 + 1))] [] G I L) ∧ ((¬ v1 ≤ v2) → (mOk L) ∧ (vp_in v1 16) ∧ (vp_in v2 16) ∧ (((m_least L (m_up L v1 &&& m_up L v2)) = (-2 : Int32)) → post (some (.int 0)) G I L) ∧ ((¬ (m_least L (m_up L v1 &&& m_up L v2)) = (-2 : Int32)) → (mOk L) ∧ ((¬ (m_great L (m_dn L v1 &&& m_dn L v2)) = (-2 : Int32)) → Wx z 0 0 12 [(0, .ref ((zB z).size + 64)), (1, .int v1), (2, .int (v2 + 1))] [] G I L) ∧ (((m_great L (m_dn L v1 &&& m_dn L v2)) = (-2 : Int32)) → post (some (.int 0)) G I L)))) : Wx z 0 0 12 [(0, .ref ((zB z).size + 64)), (1, .int v1), (2, .int v2)] [] G I L := by
  have hz1 := hz.1
  refine am_iload_n hz1 dX12_areAllJoined_12 2 rfl rfl ?_
  refine am_iload_n hz1 dX12_areAllJoined_13 1 rfl rfl ?_
  refine am_icmp_ge (tgt := 47) hz1 dX12_areAllJoined_14 (by decide) (fun c1 => ?_) (fun c1 => ?_)
  · replace h := h.1 c1
    refine am_iinc (v := v1 + 1) (lv' := [(1, .int (v1 + 1)), (0, .ref ((zB z).size + 64)), (2, .int v2)]) hz1 dX12_areAllJoined_47 1 rfl rfl rfl rfl ?_
    refine am_goto (tgt := 2) hz1 dX12_areAllJoined_50 (by decide) ?_
    exact am_sub (lv' := [(0, .ref ((zB z).size + 64)), (1, .int (v1 + 1))]) [1, 0] rfl h
  · replace h := h.2 c1
    refine am_aload_n hz1 dX12_areAllJoined_17 0 rfl rfl ?_
    refine am_iload_n hz1 dX12_areAllJoined_18 1 rfl rfl ?_
    refine am_iload_n hz1 dX12_areAllJoined_19 2 rfl rfl ?_
    obtain ⟨g2, h⟩ := h
    obtain ⟨g3, h⟩ := h
    obtain ⟨g4, h⟩ := h
    refine am_cVf hz cv_X12_355 [.int v1, .int v2] [] (c_X12_join hG v1 v2 g2 g3 g4) (ln_64 hG) (lk_64 hG) rfl rfl rfl ⟨Nat.le_refl _, Nat.le_refl _⟩ (Nat.le_of_ble_eq_true rfl) dX12_areAllJoined_20 ?_
    refine am_bipush (v := (-2)) hz1 dX12_areAllJoined_23 (by decide) ?_
    refine am_icmp_eq (tgt := 39) hz1 dX12_areAllJoined_25 (by decide) (fun c5 => ?_) (fun c5 => ?_)
    · replace h := h.1 c5
      refine am_iconst (v := 0) hz1 dX12_areAllJoined_39 (by decide) ?_
      exact am_zreturn hz (by decide) dX12_areAllJoined_40 h
    · replace h := h.2 c5
      refine am_aload_n hz1 dX12_areAllJoined_28 0 rfl rfl ?_
      refine am_iload_n hz1 dX12_areAllJoined_29 1 rfl rfl ?_
      refine am_iload_n hz1 dX12_areAllJoined_30 2 rfl rfl ?_
      obtain ⟨g6, h⟩ := h
      refine am_cVf hz cv_X12_358 [.int v1, .int v2] [] (c_X12_meet hG v1 v2 g6) (ln_64 hG) (lk_64 hG) rfl rfl rfl ⟨Nat.le_refl _, Nat.le_refl _⟩ (Nat.le_of_ble_eq_true rfl) dX12_areAllJoined_31 ?_
      refine am_bipush (v := (-2)) hz1 dX12_areAllJoined_34 (by decide) ?_
      refine am_icmp_ne (tgt := 41) hz1 dX12_areAllJoined_36 (by decide) (fun c7 => ?_) (fun c7 => ?_)
      · replace h := h.1 c7
        refine am_iinc (v := v2 + 1) (lv' := [(2, .int (v2 + 1)), (0, .ref ((zB z).size + 64)), (1, .int v1)]) hz1 dX12_areAllJoined_41 2 rfl rfl rfl rfl ?_
        refine am_goto (tgt := 12) hz1 dX12_areAllJoined_44 (by decide) ?_
        exact am_sub (lv' := [(0, .ref ((zB z).size + 64)), (1, .int v1), (2, .int (v2 + 1))]) [1, 2, 0] rfl h
      · replace h := h.2 c7
        refine am_iconst (v := 0) hz1 dX12_areAllJoined_39 (by decide) ?_
        exact am_zreturn hz (by decide) dX12_areAllJoined_40 h
set_option maxRecDepth 100000 in
set_option maxHeartbeats 4000000 in
theorem c_X12_areAllJoined {l : Launch} {D : va_G} {B : Heap} {G : amG} {I : amI} {L : amL}  (hG : Lay G)   (hM : mOk L) : Fx l D B yX12_areAllJoined cX12_areAllJoined 3 (some .boolean) 5 [.ref (B.size + 64)] G I L (some (.int (bI (m_allJ L)))) I L := by
  refine Mx.of (by decide) rfl rfl (fun z e1 e2 e3 hz => ?_)
  subst e1; subst e2; subst e3
  refine b_X12_areAllJoined_0 hz hG ?_
  have hO := hM
  obtain ⟨n, A, hM⟩ := hM
  have h16 := hM.2.1
  refine for_up (P := fun i => scan (m_allJ1 L) (fun _ => false) true (n - i) i = m_allJ L → Wx z 0 0 2 [(0, .ref ((zB z).size + 64)), (1, .int (nI i))] [] G I L) (n := n) ?_ ?_ (Nat.zero_le _) (by rw [Nat.sub_zero, m_allJ, hM.N])
  · intro e
    rw [scan_0] at e
    exact b_X12_areAllJoined_2 hz hG ⟨fun _ => ⟨by rw [← e]; rfl, rfl, rfl, rfl⟩, fun h => absurd (mm_le hM) h⟩
  · intro i hi ih e
    rw [scan_s hi] at e
    refine b_X12_areAllJoined_2 hz hG ⟨fun h => absurd h (mm_ge hM hi), fun _ => ?_⟩
    refine for_up (P := fun j => scan (m_allJP L i) (fun _ => true) false (i - j) j = m_allJ1 L i → Wx z 0 0 12 [(0, .ref ((zB z).size + 64)), (1, .int (nI i)), (2, .int (nI j))] [] G I L) (n := i) ?_ ?_ (Nat.zero_le _) (by rw [Nat.sub_zero, m_allJ1])
    · intro e6
      rw [scan_0] at e6
      refine b_X12_areAllJoined_12 hz hG ⟨fun _ => ?_, fun h => absurd (nI_le (Nat.le_refl _) (by omega)) h⟩
      rw [if_neg (by rw [← e6]; decide)] at e
      rw [nI_1]
      exact ih e
    · intro j hj jh e6
      rw [scan_s hj] at e6
      refine b_X12_areAllJoined_12 hz hG ⟨fun h => absurd h (nI_ge hj (by omega)), fun _ => ⟨hO, in16 h16 hi, in_nI (by omega) (by decide), fun q => ⟨?_, rfl, rfl, rfl⟩, fun q => ⟨hO, fun q2 => ?_, fun q2 => ⟨?_, rfl, rfl, rfl⟩⟩⟩⟩
      · rw [if_pos (by rw [m_allJP, decide_eq_true q]; rfl)] at e6
        rw [if_pos e6.symm] at e
        rw [← e]; rfl
      · rw [if_neg (by rw [m_allJP, decide_eq_false q, decide_eq_false q2]; decide)] at e6
        rw [nI_1]
        exact jh e6
      · rw [if_pos (by rw [m_allJP, decide_eq_true q2, Bool.or_true])] at e6
        rw [if_pos e6.symm] at e
        rw [← e]; rfl
set_option maxRecDepth 100000 in
set_option maxHeartbeats 4000000 in
theorem b_X12_ends_0 {z : amZ} {post : amP} {G : amG} {I : amI} {L : amL} (hz : Go z cX12_ends RX12 4 (some .int) 3 0 0 post) (hG : Lay G) {v1 : Int32} (h : Wx z 0 0 4 [(0, .ref ((zB z).size + 64)), (1, .int v1), (2, .int 0), (3, .int 0)] [] G I L) : Wx z 0 0 0 [(0, .ref ((zB z).size + 64)), (1, .int v1)] [] G I L := by
  have hz1 := hz.1
  refine am_iconst (v := 0) hz1 dX12_ends_0 (by decide) ?_
  refine am_istore_n (lv' := [(2, .int 0), (0, .ref ((zB z).size + 64)), (1, .int v1)]) hz1 dX12_ends_1 rfl rfl rfl ?_
  refine am_iconst (v := 0) hz1 dX12_ends_2 (by decide) ?_
  refine am_istore_n (lv' := [(3, .int 0), (2, .int 0), (0, .ref ((zB z).size + 64)), (1, .int v1)]) hz1 dX12_ends_3 rfl rfl rfl ?_
  exact am_sub (lv' := [(0, .ref ((zB z).size + 64)), (1, .int v1), (2, .int 0), (3, .int 0)]) [2, 3, 1, 0] rfl h
set_option maxRecDepth 100000 in
set_option maxHeartbeats 4000000 in
theorem b_X12_ends_4 {z : amZ} {post : amP} {G : amG} {I : amI} {L : amL} (hz : Go z cX12_ends RX12 4 (some .int) 3 0 0 post) (hG : Lay G) {v1 : Int32} {v2 : Int32} {v3 : Int32} (h : (((m_many L) ≤ v3) → post (some (.int v2)) G I L) ∧ ((¬ (m_many L) ≤ v3) → ((v1 = 0) → (vp_in v3 16) ∧ (s16 (m_up L v3)) ∧ ((¬ (m_size (m_up L v3)) = (1 : Int32)) → Wx z 0 0 4 [(0, .ref ((zB z).size + 64)), (1, .int v1), (2, .int (v2 ||| (0 : Int32))), (3, .int (v3 + 1))] [] G I L) ∧ (((m_size (m_up L v3)) = (1 : Int32)) → Wx z 0 0 4 [(0, .ref ((zB z).size + 64)), (1, .int v1), (2, .int (v2 ||| ((1 : Int32) <<< (v3 &&& 31)))), (3, .int (v3 + 1))] [] G I L)) ∧ ((¬ v1 = 0) → (mOk L) ∧ (s16 (m_dn L v3)) ∧ ((¬ (m_size (m_dn L v3)) = (1 : Int32)) → Wx z 0 0 4 [(0, .ref ((zB z).size + 64)), (1, .int v1), (2, .int (v2 ||| (0 : Int32))), (3, .int (v3 + 1))] [] G I L) ∧ (((m_size (m_dn L v3)) = (1 : Int32)) → Wx z 0 0 4 [(0, .ref ((zB z).size + 64)), (1, .int v1), (2, .int (v2 ||| ((1 : Int32) <<< (v3 &&& 31)))), (3, .int (v3 + 1))] [] G I L)))) : Wx z 0 0 4 [(0, .ref ((zB z).size + 64)), (1, .int v1), (2, .int v2), (3, .int v3)] [] G I L := by
  have hz1 := hz.1
  refine am_iload_n hz1 dX12_ends_4 3 rfl rfl ?_
  refine am_aload_n hz1 dX12_ends_5 0 rfl rfl ?_
  refine am_cVf hz cv_X12_78 [] [.int v3] (c_X12_many hG  ) (ln_64 hG) (lk_64 hG) rfl rfl rfl ⟨Nat.le_refl _, Nat.le_refl _⟩ (Nat.le_of_ble_eq_true rfl) dX12_ends_6 ?_
  refine am_icmp_ge (tgt := 52) hz1 dX12_ends_9 (by decide) (fun c1 => ?_) (fun c1 => ?_)
  · replace h := h.1 c1
    refine am_iload_n hz1 dX12_ends_52 2 rfl rfl ?_
    exact am_ireturn hz dX12_ends_53 h
  · replace h := h.2 c1
    refine am_iload_n hz1 dX12_ends_12 2 rfl rfl ?_
    refine am_iload_n hz1 dX12_ends_13 1 rfl rfl ?_
    refine am_if_eq (tgt := 25) hz1 dX12_ends_14 (by decide) (fun c2 => ?_) (fun c2 => ?_)
    · replace h := h.1 c2
      refine am_aload_n hz1 dX12_ends_25 0 rfl rfl ?_
      refine am_iload_n hz1 dX12_ends_26 3 rfl rfl ?_
      obtain ⟨g3, h⟩ := h
      refine am_cVf hz cv_X12_86 [.int v3] [.int v2] (c_X12_up hG v3 g3) (ln_64 hG) (lk_64 hG) rfl rfl rfl ⟨Nat.le_refl _, Nat.le_refl _⟩ (Nat.le_of_ble_eq_true rfl) dX12_ends_27 ?_
      obtain ⟨g4, h⟩ := h
      refine am_cSf hz ct_X12_111 [.int (m_up L v3)] [.int v2] (c_X12_size hG (m_up L v3) g4) rfl rfl rfl ⟨Nat.le_refl _, Nat.le_refl _⟩ (Nat.le_of_ble_eq_true rfl) dX12_ends_30 ?_
      refine am_iconst (v := 1) hz1 dX12_ends_33 (by decide) ?_
      refine am_icmp_ne (tgt := 43) hz1 dX12_ends_34 (by decide) (fun c5 => ?_) (fun c5 => ?_)
      · replace h := h.1 c5
        refine am_iconst (v := 0) hz1 dX12_ends_43 (by decide) ?_
        refine am_ior hz1 dX12_ends_44 ?_
        refine am_istore_n (lv' := [(2, .int (v2 ||| (0 : Int32))), (0, .ref ((zB z).size + 64)), (1, .int v1), (3, .int v3)]) hz1 dX12_ends_45 rfl rfl rfl ?_
        refine am_iinc (v := v3 + 1) (lv' := [(3, .int (v3 + 1)), (2, .int (v2 ||| (0 : Int32))), (0, .ref ((zB z).size + 64)), (1, .int v1)]) hz1 dX12_ends_46 3 rfl rfl rfl rfl ?_
        refine am_goto (tgt := 4) hz1 dX12_ends_49 (by decide) ?_
        exact am_sub (lv' := [(0, .ref ((zB z).size + 64)), (1, .int v1), (2, .int (v2 ||| (0 : Int32))), (3, .int (v3 + 1))]) [2, 3, 1, 0] rfl h
      · replace h := h.2 c5
        refine am_iconst (v := 1) hz1 dX12_ends_37 (by decide) ?_
        refine am_iload_n hz1 dX12_ends_38 3 rfl rfl ?_
        refine am_ishl hz1 dX12_ends_39 ?_
        refine am_goto (tgt := 44) hz1 dX12_ends_40 (by decide) ?_
        refine am_ior hz1 dX12_ends_44 ?_
        refine am_istore_n (lv' := [(2, .int (v2 ||| ((1 : Int32) <<< (v3 &&& 31)))), (0, .ref ((zB z).size + 64)), (1, .int v1), (3, .int v3)]) hz1 dX12_ends_45 rfl rfl rfl ?_
        refine am_iinc (v := v3 + 1) (lv' := [(3, .int (v3 + 1)), (2, .int (v2 ||| ((1 : Int32) <<< (v3 &&& 31)))), (0, .ref ((zB z).size + 64)), (1, .int v1)]) hz1 dX12_ends_46 3 rfl rfl rfl rfl ?_
        refine am_goto (tgt := 4) hz1 dX12_ends_49 (by decide) ?_
        exact am_sub (lv' := [(0, .ref ((zB z).size + 64)), (1, .int v1), (2, .int (v2 ||| ((1 : Int32) <<< (v3 &&& 31)))), (3, .int (v3 + 1))]) [2, 3, 1, 0] rfl h
    · replace h := h.2 c2
      refine am_aload_n hz1 dX12_ends_17 0 rfl rfl ?_
      refine am_iload_n hz1 dX12_ends_18 3 rfl rfl ?_
      obtain ⟨g6, h⟩ := h
      refine am_cVf hz cv_X12_97 [.int v3] [.int v2] (c_X12_down hG v3 g6) (ln_64 hG) (lk_64 hG) rfl rfl rfl ⟨Nat.le_refl _, Nat.le_refl _⟩ (Nat.le_of_ble_eq_true rfl) dX12_ends_19 ?_
      refine am_goto (tgt := 30) hz1 dX12_ends_22 (by decide) ?_
      obtain ⟨g7, h⟩ := h
      refine am_cSf hz ct_X12_111 [.int (m_dn L v3)] [.int v2] (c_X12_size hG (m_dn L v3) g7) rfl rfl rfl ⟨Nat.le_refl _, Nat.le_refl _⟩ (Nat.le_of_ble_eq_true rfl) dX12_ends_30 ?_
      refine am_iconst (v := 1) hz1 dX12_ends_33 (by decide) ?_
      refine am_icmp_ne (tgt := 43) hz1 dX12_ends_34 (by decide) (fun c8 => ?_) (fun c8 => ?_)
      · replace h := h.1 c8
        refine am_iconst (v := 0) hz1 dX12_ends_43 (by decide) ?_
        refine am_ior hz1 dX12_ends_44 ?_
        refine am_istore_n (lv' := [(2, .int (v2 ||| (0 : Int32))), (0, .ref ((zB z).size + 64)), (1, .int v1), (3, .int v3)]) hz1 dX12_ends_45 rfl rfl rfl ?_
        refine am_iinc (v := v3 + 1) (lv' := [(3, .int (v3 + 1)), (2, .int (v2 ||| (0 : Int32))), (0, .ref ((zB z).size + 64)), (1, .int v1)]) hz1 dX12_ends_46 3 rfl rfl rfl rfl ?_
        refine am_goto (tgt := 4) hz1 dX12_ends_49 (by decide) ?_
        exact am_sub (lv' := [(0, .ref ((zB z).size + 64)), (1, .int v1), (2, .int (v2 ||| (0 : Int32))), (3, .int (v3 + 1))]) [2, 3, 1, 0] rfl h
      · replace h := h.2 c8
        refine am_iconst (v := 1) hz1 dX12_ends_37 (by decide) ?_
        refine am_iload_n hz1 dX12_ends_38 3 rfl rfl ?_
        refine am_ishl hz1 dX12_ends_39 ?_
        refine am_goto (tgt := 44) hz1 dX12_ends_40 (by decide) ?_
        refine am_ior hz1 dX12_ends_44 ?_
        refine am_istore_n (lv' := [(2, .int (v2 ||| ((1 : Int32) <<< (v3 &&& 31)))), (0, .ref ((zB z).size + 64)), (1, .int v1), (3, .int v3)]) hz1 dX12_ends_45 rfl rfl rfl ?_
        refine am_iinc (v := v3 + 1) (lv' := [(3, .int (v3 + 1)), (2, .int (v2 ||| ((1 : Int32) <<< (v3 &&& 31)))), (0, .ref ((zB z).size + 64)), (1, .int v1)]) hz1 dX12_ends_46 3 rfl rfl rfl rfl ?_
        refine am_goto (tgt := 4) hz1 dX12_ends_49 (by decide) ?_
        exact am_sub (lv' := [(0, .ref ((zB z).size + 64)), (1, .int v1), (2, .int (v2 ||| ((1 : Int32) <<< (v3 &&& 31)))), (3, .int (v3 + 1))]) [2, 3, 1, 0] rfl h
set_option maxRecDepth 100000 in
set_option maxHeartbeats 4000000 in
theorem c_X12_ends {l : Launch} {D : va_G} {B : Heap} {G : amG} {I : amI} {L : amL}  (hG : Lay G)  (v1 : Int32) (hM : mOk L) : Fx l D B yX12_ends cX12_ends 4 (some .int) 3 [.ref (B.size + 64), .int v1] G I L (some (.int (mkset (fun a => decide (m_size (if v1 = 0 then m_up L (nI a) else m_dn L (nI a)) = 1)) (mN L)))) I L := by
  refine Mx.of (by decide) rfl rfl (fun z e1 e2 e3 hz => ?_)
  subst e1; subst e2; subst e3
  refine b_X12_ends_0 hz hG ?_
  have hO := hM
  obtain ⟨n, A, hM⟩ := hM
  have h16 := hM.2.1
  refine for_up (P := fun i => Wx z 0 0 4 [(0, .ref ((zB z).size + 64)), (1, .int v1), (2, .int (mkset (fun a => decide (m_size (if v1 = 0 then m_up L (nI a) else m_dn L (nI a)) = 1)) i)), (3, .int (nI i))] [] G I L) (n := n) ?_ ?_ (Nat.zero_le _)
  · exact b_X12_ends_4 hz hG ⟨fun _ => ⟨by rw [hM.N], rfl, rfl, rfl⟩, fun h => absurd (mm_le hM) h⟩
  · intro i hi ih
    refine b_X12_ends_4 hz hG ⟨fun h => absurd h (mm_ge hM hi), fun _ => ⟨fun h0 => ⟨in16 h16 hi, m_up_16 hO (by omega), fun g => ?_, fun g => ?_⟩, fun h0 => ⟨hO, m_dn_16 hO, fun g => ?_, fun g => ?_⟩⟩⟩
    · rw [mkset, if_neg (by rw [if_pos h0, decide_eq_false g]; decide)] at ih
      rw [nI_1]
      exact ih
    · rw [mkset, if_pos (by rw [if_pos h0]; exact decide_eq_true g)] at ih
      rw [nI_1]
      exact ih
    · rw [mkset, if_neg (by rw [if_neg h0, decide_eq_false g]; decide)] at ih
      rw [nI_1]
      exact ih
    · rw [mkset, if_pos (by rw [if_neg h0]; exact decide_eq_true g)] at ih
      rw [nI_1]
      exact ih
set_option maxRecDepth 100000 in
set_option maxHeartbeats 4000000 in
theorem b_X12_keptSet_0 {z : amZ} {post : amP} {G : amG} {I : amI} {L : amL} (hz : Go z cX12_keptSet RX12 3 (some .int) 2 0 0 post) (hG : Lay G)  (h : Wx z 0 0 4 [(0, .ref ((zB z).size + 64)), (1, .int 0), (2, .int 0)] [] G I L) : Wx z 0 0 0 [(0, .ref ((zB z).size + 64))] [] G I L := by
  have hz1 := hz.1
  refine am_iconst (v := 0) hz1 dX12_keptSet_0 (by decide) ?_
  refine am_istore_n (lv' := [(1, .int 0), (0, .ref ((zB z).size + 64))]) hz1 dX12_keptSet_1 rfl rfl rfl ?_
  refine am_iconst (v := 0) hz1 dX12_keptSet_2 (by decide) ?_
  refine am_istore_n (lv' := [(2, .int 0), (1, .int 0), (0, .ref ((zB z).size + 64))]) hz1 dX12_keptSet_3 rfl rfl rfl ?_
  exact am_sub (lv' := [(0, .ref ((zB z).size + 64)), (1, .int 0), (2, .int 0)]) [2, 1, 0] rfl h
set_option maxRecDepth 100000 in
set_option maxHeartbeats 4000000 in
theorem b_X12_keptSet_4 {z : amZ} {post : amP} {G : amG} {I : amI} {L : amL} (hz : Go z cX12_keptSet RX12 3 (some .int) 2 0 0 post) (hG : Lay G) {v1 : Int32} {v2 : Int32} (h : (((2 : Int32) ≤ v2) → post (some (.int v1)) G I L) ∧ ((¬ (2 : Int32) ≤ v2) → ((m_kept I v2 = false) → Wx z 0 0 4 [(0, .ref ((zB z).size + 64)), (1, .int (v1 ||| (0 : Int32))), (2, .int (v2 + 1))] [] G I L) ∧ ((m_kept I v2 = true) → Wx z 0 0 4 [(0, .ref ((zB z).size + 64)), (1, .int (v1 ||| ((1 : Int32) <<< (v2 &&& 31)))), (2, .int (v2 + 1))] [] G I L))) : Wx z 0 0 4 [(0, .ref ((zB z).size + 64)), (1, .int v1), (2, .int v2)] [] G I L := by
  have hz1 := hz.1
  refine am_iload_n hz1 dX12_keptSet_4 2 rfl rfl ?_
  refine am_iconst (v := 2) hz1 dX12_keptSet_5 (by decide) ?_
  refine am_icmp_ge (tgt := 33) hz1 dX12_keptSet_6 (by decide) (fun c1 => ?_) (fun c1 => ?_)
  · replace h := h.1 c1
    refine am_iload_n hz1 dX12_keptSet_33 1 rfl rfl ?_
    exact am_ireturn hz dX12_keptSet_34 h
  · replace h := h.2 c1
    refine am_iload_n hz1 dX12_keptSet_9 1 rfl rfl ?_
    refine am_aload_n hz1 dX12_keptSet_10 0 rfl rfl ?_
    refine am_iload_n hz1 dX12_keptSet_11 2 rfl rfl ?_
    refine am_cVf hz cv_X12_250 [.int v2] [.int v1] (c_X12_isKept hG v2 ) (ln_64 hG) (lk_64 hG) rfl rfl rfl ⟨Nat.le_refl _, Nat.le_refl _⟩ (Nat.le_of_ble_eq_true rfl) dX12_keptSet_12 ?_
    refine am_ifb_eq (tgt := 24) hz1 dX12_keptSet_15 (by decide) (fun c2 => ?_) (fun c2 => ?_)
    · replace h := h.1 c2
      refine am_iconst (v := 0) hz1 dX12_keptSet_24 (by decide) ?_
      refine am_ior hz1 dX12_keptSet_25 ?_
      refine am_istore_n (lv' := [(1, .int (v1 ||| (0 : Int32))), (0, .ref ((zB z).size + 64)), (2, .int v2)]) hz1 dX12_keptSet_26 rfl rfl rfl ?_
      refine am_iinc (v := v2 + 1) (lv' := [(2, .int (v2 + 1)), (1, .int (v1 ||| (0 : Int32))), (0, .ref ((zB z).size + 64))]) hz1 dX12_keptSet_27 2 rfl rfl rfl rfl ?_
      refine am_goto (tgt := 4) hz1 dX12_keptSet_30 (by decide) ?_
      exact am_sub (lv' := [(0, .ref ((zB z).size + 64)), (1, .int (v1 ||| (0 : Int32))), (2, .int (v2 + 1))]) [2, 1, 0] rfl h
    · replace h := h.2 c2
      refine am_iconst (v := 1) hz1 dX12_keptSet_18 (by decide) ?_
      refine am_iload_n hz1 dX12_keptSet_19 2 rfl rfl ?_
      refine am_ishl hz1 dX12_keptSet_20 ?_
      refine am_goto (tgt := 25) hz1 dX12_keptSet_21 (by decide) ?_
      refine am_ior hz1 dX12_keptSet_25 ?_
      refine am_istore_n (lv' := [(1, .int (v1 ||| ((1 : Int32) <<< (v2 &&& 31)))), (0, .ref ((zB z).size + 64)), (2, .int v2)]) hz1 dX12_keptSet_26 rfl rfl rfl ?_
      refine am_iinc (v := v2 + 1) (lv' := [(2, .int (v2 + 1)), (1, .int (v1 ||| ((1 : Int32) <<< (v2 &&& 31)))), (0, .ref ((zB z).size + 64))]) hz1 dX12_keptSet_27 2 rfl rfl rfl rfl ?_
      refine am_goto (tgt := 4) hz1 dX12_keptSet_30 (by decide) ?_
      exact am_sub (lv' := [(0, .ref ((zB z).size + 64)), (1, .int (v1 ||| ((1 : Int32) <<< (v2 &&& 31)))), (2, .int (v2 + 1))]) [2, 1, 0] rfl h
set_option maxRecDepth 100000 in
set_option maxHeartbeats 4000000 in
theorem c_X12_keptSet {l : Launch} {D : va_G} {B : Heap} {G : amG} {I : amI} {L : amL}  (hG : Lay G)    : Fx l D B yX12_keptSet cX12_keptSet 3 (some .int) 2 [.ref (B.size + 64)] G I L (some (.int (mkset (fun s => m_kept I (nI s)) 2))) I L := by
  refine Mx.of (by decide) rfl rfl (fun z e1 e2 e3 hz => ?_)
  subst e1; subst e2; subst e3
  refine b_X12_keptSet_0 hz hG ?_
  refine for_up (P := fun i => Wx z 0 0 4 [(0, .ref ((zB z).size + 64)), (1, .int (mkset (fun s => m_kept I (nI s)) i)), (2, .int (nI i))] [] G I L) (n := 2) ?_ ?_ (Nat.zero_le _)
  · exact b_X12_keptSet_4 hz hG ⟨fun _ => ⟨rfl, rfl, rfl, rfl⟩, fun h => absurd (nI_le (a := 2) (b := 2) (Nat.le_refl _) (by decide)) h⟩
  · intro i hi ih
    refine b_X12_keptSet_4 hz hG ⟨fun h => absurd h (nI_ge (b := 2) hi (by decide)), fun _ => ⟨fun g => ?_, fun g => ?_⟩⟩
    · rw [mkset, if_neg (by rw [g]; decide)] at ih
      rw [nI_1]
      exact ih
    · rw [mkset, if_pos g] at ih
      rw [nI_1]
      exact ih
def m_same (L : amL) (f g : Int32) : Bool := scan (fun k => decide (¬ L 65 (17 + 256 * f.toNatClampNeg + k) = L 65 (17 + 256 * g.toNatClampNeg + k))) (fun _ => false) true 256 0
set_option maxRecDepth 100000 in
set_option maxHeartbeats 4000000 in
theorem b_X12_areSame_0 {z : amZ} {post : amP} {G : amG} {I : amI} {L : amL} (hz : Go z cX12_areSame RX12 4 (some .boolean) 0 0 0 post) (hG : Lay G) {v1 : Int32} {v2 : Int32} (h : Wx z 0 0 2 [(0, .ref ((zB z).size + 64)), (1, .int v1), (2, .int v2), (3, .int 0)] [] G I L) : Wx z 0 0 0 [(0, .ref ((zB z).size + 64)), (1, .int v1), (2, .int v2)] [] G I L := by
  have hz1 := hz.1
  refine am_iconst (v := 0) hz1 dX12_areSame_0 (by decide) ?_
  refine am_istore_n (lv' := [(3, .int 0), (0, .ref ((zB z).size + 64)), (1, .int v1), (2, .int v2)]) hz1 dX12_areSame_1 rfl rfl rfl ?_
  exact am_sub (lv' := [(0, .ref ((zB z).size + 64)), (1, .int v1), (2, .int v2), (3, .int 0)]) [1, 2, 3, 0] rfl h
set_option maxRecDepth 100000 in
set_option maxHeartbeats 4000000 in
theorem b_X12_areSame_2 {z : amZ} {post : amP} {G : amG} {I : amI} {L : amL} (hz : Go z cX12_areSame RX12 4 (some .boolean) 0 0 0 post) (hG : Lay G) {v1 : Int32} {v2 : Int32} {v3 : Int32} (h : (((256 : Int32) ≤ v3) → post (some (.int 1)) G I L) ∧ ((¬ (256 : Int32) ≤ v3) → vp_in (((17 : Int32) + ((256 : Int32) * v1)) + v3) 1074 ∧ vp_in (((17 : Int32) + ((256 : Int32) * v2)) + v3) 1074 ∧ (((L 65 (((17 : Int32) + ((256 : Int32) * v1)) + v3).toNatClampNeg) = (L 65 (((17 : Int32) + ((256 : Int32) * v2)) + v3).toNatClampNeg)) → Wx z 0 0 2 [(0, .ref ((zB z).size + 64)), (1, .int v1), (2, .int v2), (3, .int (v3 + 1))] [] G I L) ∧ ((¬ (L 65 (((17 : Int32) + ((256 : Int32) * v1)) + v3).toNatClampNeg) = (L 65 (((17 : Int32) + ((256 : Int32) * v2)) + v3).toNatClampNeg)) → post (some (.int 0)) G I L))) : Wx z 0 0 2 [(0, .ref ((zB z).size + 64)), (1, .int v1), (2, .int v2), (3, .int v3)] [] G I L := by
  have hz1 := hz.1
  refine am_iload_n hz1 dX12_areSame_2 3 rfl rfl ?_
  refine am_sipush (v := 256) hz1 dX12_areSame_3 (by decide) ?_
  refine am_icmp_ge (tgt := 51) hz1 dX12_areSame_6 (by decide) (fun c1 => ?_) (fun c1 => ?_)
  · replace h := h.1 c1
    refine am_iconst (v := 1) hz1 dX12_areSame_51 (by decide) ?_
    exact am_zreturn hz (by decide) dX12_areSame_52 h
  · replace h := h.2 c1
    refine am_aload_n hz1 dX12_areSame_9 0 rfl rfl ?_
    refine am_getR hz1 fl_X12_9 (ln_64 hG) (lk_64 hG) (lr_64_0 hG) rfl dX12_areSame_10 ?_
    refine am_bipush (v := 17) hz1 dX12_areSame_13 (by decide) ?_
    refine am_sipush (v := 256) hz1 dX12_areSame_15 (by decide) ?_
    refine am_iload_n hz1 dX12_areSame_18 1 rfl rfl ?_
    refine am_imul hz1 dX12_areSame_19 ?_
    refine am_iadd hz1 dX12_areSame_20 ?_
    refine am_iload_n hz1 dX12_areSame_21 3 rfl rfl ?_
    refine am_iadd hz1 dX12_areSame_22 ?_
    obtain ⟨g2, h⟩ := h
    refine am_lald hz1 (ln_65 hG) (lk_65 hG) (by rw [(ll_65 hG)]; exact g2) dX12_areSame_23 ?_
    refine am_aload_n hz1 dX12_areSame_24 0 rfl rfl ?_
    refine am_getR hz1 fl_X12_9 (ln_64 hG) (lk_64 hG) (lr_64_0 hG) rfl dX12_areSame_25 ?_
    refine am_bipush (v := 17) hz1 dX12_areSame_28 (by decide) ?_
    refine am_sipush (v := 256) hz1 dX12_areSame_30 (by decide) ?_
    refine am_iload_n hz1 dX12_areSame_33 2 rfl rfl ?_
    refine am_imul hz1 dX12_areSame_34 ?_
    refine am_iadd hz1 dX12_areSame_35 ?_
    refine am_iload_n hz1 dX12_areSame_36 3 rfl rfl ?_
    refine am_iadd hz1 dX12_areSame_37 ?_
    obtain ⟨g3, h⟩ := h
    refine am_lald hz1 (ln_65 hG) (lk_65 hG) (by rw [(ll_65 hG)]; exact g3) dX12_areSame_38 ?_
    refine am_lif_eq (tgt := 45) hz1 dX12_areSame_39 dX12_areSame_40 (by decide) (fun c4 => ?_) (fun c4 => ?_)
    · replace h := h.1 c4
      refine am_iinc (v := v3 + 1) (lv' := [(3, .int (v3 + 1)), (0, .ref ((zB z).size + 64)), (1, .int v1), (2, .int v2)]) hz1 dX12_areSame_45 3 rfl rfl rfl rfl ?_
      refine am_goto (tgt := 2) hz1 dX12_areSame_48 (by decide) ?_
      exact am_sub (lv' := [(0, .ref ((zB z).size + 64)), (1, .int v1), (2, .int v2), (3, .int (v3 + 1))]) [1, 2, 3, 0] rfl h
    · replace h := h.2 c4
      refine am_iconst (v := 0) hz1 dX12_areSame_43 (by decide) ?_
      exact am_zreturn hz (by decide) dX12_areSame_44 h
set_option maxRecDepth 100000 in
set_option maxHeartbeats 4000000 in
theorem c_X12_areSame {l : Launch} {D : va_G} {B : Heap} {G : amG} {I : amI} {L : amL}  (hG : Lay G)  (v1 : Int32) (v2 : Int32) (hf : fnOk v1) (hg : fnOk v2) : Fx l D B yX12_areSame cX12_areSame 4 (some .boolean) 0 [.ref (B.size + 64), .int v1, .int v2] G I L (some (.int (bI (m_same L v1 v2)))) I L := by
  refine Mx.of (by decide) rfl rfl (fun z e1 e2 e3 hz => ?_)
  subst e1; subst e2; subst e3
  refine b_X12_areSame_0 hz hG ?_
  obtain ⟨f, hf, rfl⟩ := hf
  obtain ⟨g, hg, rfl⟩ := hg
  have ef : (nI f).toNatClampNeg = f := cl_nI (by omega)
  have eg : (nI g).toNatClampNeg = g := cl_nI (by omega)
  refine for_up (P := fun i => scan (fun k => decide (¬ L 65 (17 + 256 * f + k) = L 65 (17 + 256 * g + k))) (fun _ => false) true (256 - i) i = m_same L (nI f) (nI g) → Wx z 0 0 2 [(0, .ref ((zB z).size + 64)), (1, .int (nI f)), (2, .int (nI g)), (3, .int (nI i))] [] G I L) (n := 256) ?_ ?_ (Nat.zero_le _) (by rw [m_same, ef, eg])
  · intro e
    rw [scan_0] at e
    exact b_X12_areSame_2 hz hG ⟨fun _ => ⟨by rw [← e]; rfl, rfl, rfl, rfl⟩, fun h => absurd (nI_le (a := 256) (b := 256) (Nat.le_refl _) (by decide)) h⟩
  · intro i hi ih e
    rw [scan_s hi] at e
    refine b_X12_areSame_2 hz hG ⟨fun h => absurd h (nI_ge (b := 256) hi (by decide)), fun _ => ?_⟩
    rw [fcell, fcell, cl_nI (n := 17 + 256 * f + i) (by omega), cl_nI (n := 17 + 256 * g + i) (by omega), nI_1]
    refine ⟨in_nI (by omega) (by decide), in_nI (by omega) (by decide), fun q => ?_, fun q => ⟨?_, rfl, rfl, rfl⟩⟩
    · rw [if_neg (by rw [decide_eq_false (not_not_intro q)]; decide)] at e
      exact ih e
    · rw [if_pos (decide_eq_true q)] at e
      rw [← e]; rfl
/-- the order that stands on the first shelf, in the reference -/
def KO (I : amI) (s k : Nat) (A : Nat → Int32) : Prop := 1 ≤ k ∧ k ≤ 16 ∧ PO k A ∧ I 67 s = nI k ∧ ∀ y, y < k → I 68 (16 * s + y) = upS A y
theorem KO.am {I : amI} {k : Nat} {A : Nat → Int32} (h : KO I 0 k A) {y w : Nat} (hy : y < k) (hw : w < 32) : m_amT I (nI y) (nI w) = le A y w := by
  have := h.2.2.2.2 y hy
  rw [Nat.mul_zero, Nat.zero_add] at this
  rw [m_amT, cl_nI (by have := h.2.1; omega), this, has_b hw, le]
theorem cnt_ct {c : Nat → Bool} : ∀ n, cntI c n = nI (ct c n)
  | 0 => rfl
  | n + 1 => by
    rw [cntI, ct, cnt_ct n]
    by_cases h : c n = true
    · rw [if_pos h, if_pos h, nI_1]
    · rw [if_neg h, if_neg h]; rfl
theorem KO.sz {I : amI} {k : Nat} {A : Nat → Int32} (h : KO I 0 k A) {y q : Nat} (hy : y < k) (hq : q < k) : cntI (fun z => m_amT I (nI y) (nI z) && m_amT I (nI z) (nI q)) (I 67 0).toNatClampNeg = nI (rkS k A y q) := by
  have h16 := h.2.1
  rw [h.2.2.2.1, cl_nI (by omega), cnt_ct, rkS, ct_16 h16 (iv_lt (by omega) hq)]
  congr 1
  refine ct_cong (fun i hi => ?_)
  rw [h.am hy (by omega), h.am hi (by omega), iv_b (by omega) hq (by omega), decide_eq_true hi, Bool.true_and]
set_option maxRecDepth 100000 in
set_option maxHeartbeats 4000000 in
theorem b_X12_laysThere_0 {z : amZ} {post : amP} {G : amG} {I : amI} {L : amL} (hz : Go z cX12_laysThere RX12 5 none 3 0 0 post) (hG : Lay G) {v1 : Int32} (h : Wx z 0 0 2 [(0, .ref ((zB z).size + 64)), (1, .int v1), (2, .int 1)] [] G I L) : Wx z 0 0 0 [(0, .ref ((zB z).size + 64)), (1, .int v1)] [] G I L := by
  have hz1 := hz.1
  refine am_iconst (v := 1) hz1 dX12_laysThere_0 (by decide) ?_
  refine am_istore_n (lv' := [(2, .int 1), (0, .ref ((zB z).size + 64)), (1, .int v1)]) hz1 dX12_laysThere_1 rfl rfl rfl ?_
  exact am_sub (lv' := [(0, .ref ((zB z).size + 64)), (1, .int v1), (2, .int 1)]) [1, 2, 0] rfl h
set_option maxRecDepth 100000 in
set_option maxHeartbeats 4000000 in
theorem b_X12_laysThere_2 {z : amZ} {post : amP} {G : amG} {I : amI} {L : amL} (hz : Go z cX12_laysThere RX12 5 none 3 0 0 post) (hG : Lay G) {v1 : Int32} {v2 : Int32} (h : (((I 67 (0 : Int32).toNatClampNeg) < v2) → post none G I L) ∧ ((¬ (I 67 (0 : Int32).toNatClampNeg) < v2) → Wx z 0 0 14 [(0, .ref ((zB z).size + 64)), (1, .int v1), (2, .int v2), (3, .int 0)] [] G I L)) : Wx z 0 0 2 [(0, .ref ((zB z).size + 64)), (1, .int v1), (2, .int v2)] [] G I L := by
  have hz1 := hz.1
  refine am_iload_n hz1 dX12_laysThere_2 2 rfl rfl ?_
  refine am_aload_n hz1 dX12_laysThere_3 0 rfl rfl ?_
  refine am_getR hz1 fl_X12_18 (ln_64 hG) (lk_64 hG) (lr_64_3 hG) rfl dX12_laysThere_4 ?_
  refine am_iconst (v := 0) hz1 dX12_laysThere_7 (by decide) ?_
  refine am_iald hz1 (ln_67 hG) (lk_67 hG) (by rw [(ll_67 hG)]; exact in_nI (n := 0) (by decide) (by decide)) dX12_laysThere_8 ?_
  refine am_icmp_gt (tgt := 136) hz1 dX12_laysThere_9 (by decide) (fun c2 => ?_) (fun c2 => ?_)
  · replace h := h.1 c2
    exact am_return hz dX12_laysThere_136 h
  · replace h := h.2 c2
    refine am_iconst (v := 0) hz1 dX12_laysThere_12 (by decide) ?_
    refine am_istore_n (lv' := [(3, .int 0), (0, .ref ((zB z).size + 64)), (1, .int v1), (2, .int v2)]) hz1 dX12_laysThere_13 rfl rfl rfl ?_
    exact am_sub (lv' := [(0, .ref ((zB z).size + 64)), (1, .int v1), (2, .int v2), (3, .int 0)]) [1, 2, 3, 0] rfl h
set_option maxRecDepth 100000 in
set_option maxHeartbeats 4000000 in
theorem b_X12_laysThere_14 {z : amZ} {post : amP} {G : amG} {I : amI} {L : amL} (hz : Go z cX12_laysThere RX12 5 none 3 0 0 post) (hG : Lay G) {v1 : Int32} {v2 : Int32} {v3 : Int32} (h : (((I 67 (0 : Int32).toNatClampNeg) ≤ v3) → Wx z 0 0 2 [(0, .ref ((zB z).size + 64)), (1, .int v1), (2, .int (v2 + 1))] [] G I L) ∧ ((¬ (I 67 (0 : Int32).toNatClampNeg) ≤ v3) → (vp_in v3 32) ∧ ((m_amT I v3 v1 = false) → Wx z 0 0 14 [(0, .ref ((zB z).size + 64)), (1, .int v1), (2, .int v2), (3, .int (v3 + 1))] [] G I L) ∧ ((m_amT I v3 v1 = true) → (tkOk I) ∧ (vp_in v3 32) ∧ (((cntI (fun z => m_amT I v3 (nI z) && m_amT I (nI z) v1) (I 67 0).toNatClampNeg) = v2) → ((¬ v3 = v1) → vp_in v3 16 ∧ Wx z 0 0 65 [(0, .ref ((zB z).size + 64)), (1, .int v1), (2, .int v2), (3, .int v3), (4, .int 0)] [] G I (setL L 84 (vp_updL (L 84) v3.toNatClampNeg (0 : Int64)))) ∧ ((v3 = v1) → vp_in v3 16 ∧ Wx z 0 0 65 [(0, .ref ((zB z).size + 64)), (1, .int v1), (2, .int v2), (3, .int v3), (4, .int 0)] [] G I (setL L 84 (vp_updL (L 84) v3.toNatClampNeg (1 : Int64))))) ∧ ((¬ (cntI (fun z => m_amT I v3 (nI z) && m_amT I (nI z) v1) (I 67 0).toNatClampNeg) = v2) → Wx z 0 0 14 [(0, .ref ((zB z).size + 64)), (1, .int v1), (2, .int v2), (3, .int (v3 + 1))] [] G I L)))) : Wx z 0 0 14 [(0, .ref ((zB z).size + 64)), (1, .int v1), (2, .int v2), (3, .int v3)] [] G I L := by
  have hz1 := hz.1
  refine am_iload_n hz1 dX12_laysThere_14 3 rfl rfl ?_
  refine am_aload_n hz1 dX12_laysThere_15 0 rfl rfl ?_
  refine am_getR hz1 fl_X12_18 (ln_64 hG) (lk_64 hG) (lr_64_3 hG) rfl dX12_laysThere_16 ?_
  refine am_iconst (v := 0) hz1 dX12_laysThere_19 (by decide) ?_
  refine am_iald hz1 (ln_67 hG) (lk_67 hG) (by rw [(ll_67 hG)]; exact in_nI (n := 0) (by decide) (by decide)) dX12_laysThere_20 ?_
  refine am_icmp_ge (tgt := 130) hz1 dX12_laysThere_21 (by decide) (fun c2 => ?_) (fun c2 => ?_)
  · replace h := h.1 c2
    refine am_iinc (v := v2 + 1) (lv' := [(2, .int (v2 + 1)), (0, .ref ((zB z).size + 64)), (1, .int v1), (3, .int v3)]) hz1 dX12_laysThere_130 2 rfl rfl rfl rfl ?_
    refine am_goto (tgt := 2) hz1 dX12_laysThere_133 (by decide) ?_
    exact am_sub (lv' := [(0, .ref ((zB z).size + 64)), (1, .int v1), (2, .int (v2 + 1))]) [1, 2, 0] rfl h
  · replace h := h.2 c2
    refine am_aload_n hz1 dX12_laysThere_24 0 rfl rfl ?_
    refine am_iload_n hz1 dX12_laysThere_25 3 rfl rfl ?_
    refine am_iload_n hz1 dX12_laysThere_26 1 rfl rfl ?_
    obtain ⟨g3, h⟩ := h
    refine am_cVf hz cv_X12_455 [.int v3, .int v1] [] (c_X12_isAtMostThere hG v3 v1 g3) (ln_64 hG) (lk_64 hG) rfl rfl rfl ⟨Nat.le_refl _, Nat.le_refl _⟩ (Nat.le_of_ble_eq_true rfl) dX12_laysThere_27 ?_
    refine am_ifb_eq (tgt := 124) hz1 dX12_laysThere_30 (by decide) (fun c4 => ?_) (fun c4 => ?_)
    · replace h := h.1 c4
      refine am_iinc (v := v3 + 1) (lv' := [(3, .int (v3 + 1)), (0, .ref ((zB z).size + 64)), (1, .int v1), (2, .int v2)]) hz1 dX12_laysThere_124 3 rfl rfl rfl rfl ?_
      refine am_goto (tgt := 14) hz1 dX12_laysThere_127 (by decide) ?_
      exact am_sub (lv' := [(0, .ref ((zB z).size + 64)), (1, .int v1), (2, .int v2), (3, .int (v3 + 1))]) [1, 2, 3, 0] rfl h
    · replace h := h.2 c4
      refine am_aload_n hz1 dX12_laysThere_33 0 rfl rfl ?_
      refine am_iload_n hz1 dX12_laysThere_34 3 rfl rfl ?_
      refine am_iload_n hz1 dX12_laysThere_35 1 rfl rfl ?_
      obtain ⟨g5, h⟩ := h
      obtain ⟨g6, h⟩ := h
      refine am_cVf hz cv_X12_473 [.int v3, .int v1] [] (c_X12_sizeThere hG v3 v1 g5 g6) (ln_64 hG) (lk_64 hG) rfl rfl rfl ⟨Nat.le_refl _, Nat.le_refl _⟩ (Nat.le_of_ble_eq_true rfl) dX12_laysThere_36 ?_
      refine am_iload_n hz1 dX12_laysThere_39 2 rfl rfl ?_
      refine am_icmp_eq (tgt := 46) hz1 dX12_laysThere_40 (by decide) (fun c7 => ?_) (fun c7 => ?_)
      · replace h := h.1 c7
        refine am_aload_n hz1 dX12_laysThere_46 0 rfl rfl ?_
        refine am_getR hz1 fl_X12_72 (ln_64 hG) (lk_64 hG) (lr_64_32 hG) rfl dX12_laysThere_47 ?_
        refine am_iload_n hz1 dX12_laysThere_50 3 rfl rfl ?_
        refine am_iload_n hz1 dX12_laysThere_51 3 rfl rfl ?_
        refine am_iload_n hz1 dX12_laysThere_52 1 rfl rfl ?_
        refine am_icmp_ne (tgt := 60) hz1 dX12_laysThere_53 (by decide) (fun c8 => ?_) (fun c8 => ?_)
        · replace h := h.1 c8
          refine am_lconst (v := 0) hz1 dX12_laysThere_60 (by decide) ?_
          obtain ⟨g9, h⟩ := h
          refine am_last hz1 (ln_84 hG) (lk_84 hG) (by rw [(ll_84 hG)]; exact g9) dX12_laysThere_61 ?_
          refine am_iconst (v := 0) hz1 dX12_laysThere_62 (by decide) ?_
          refine am_istore (lv' := [(4, .int 0), (0, .ref ((zB z).size + 64)), (1, .int v1), (2, .int v2), (3, .int v3)]) hz1 dX12_laysThere_63 rfl rfl ?_
          exact am_sub (lv' := [(0, .ref ((zB z).size + 64)), (1, .int v1), (2, .int v2), (3, .int v3), (4, .int 0)]) [1, 2, 3, 4, 0] rfl h
        · replace h := h.2 c8
          refine am_lconst (v := 1) hz1 dX12_laysThere_56 (by decide) ?_
          refine am_goto (tgt := 61) hz1 dX12_laysThere_57 (by decide) ?_
          obtain ⟨g10, h⟩ := h
          refine am_last hz1 (ln_84 hG) (lk_84 hG) (by rw [(ll_84 hG)]; exact g10) dX12_laysThere_61 ?_
          refine am_iconst (v := 0) hz1 dX12_laysThere_62 (by decide) ?_
          refine am_istore (lv' := [(4, .int 0), (0, .ref ((zB z).size + 64)), (1, .int v1), (2, .int v2), (3, .int v3)]) hz1 dX12_laysThere_63 rfl rfl ?_
          exact am_sub (lv' := [(0, .ref ((zB z).size + 64)), (1, .int v1), (2, .int v2), (3, .int v3), (4, .int 0)]) [1, 2, 3, 4, 0] rfl h
      · replace h := h.2 c7
        refine am_goto (tgt := 124) hz1 dX12_laysThere_43 (by decide) ?_
        refine am_iinc (v := v3 + 1) (lv' := [(3, .int (v3 + 1)), (0, .ref ((zB z).size + 64)), (1, .int v1), (2, .int v2)]) hz1 dX12_laysThere_124 3 rfl rfl rfl rfl ?_
        refine am_goto (tgt := 14) hz1 dX12_laysThere_127 (by decide) ?_
        exact am_sub (lv' := [(0, .ref ((zB z).size + 64)), (1, .int v1), (2, .int v2), (3, .int (v3 + 1))]) [1, 2, 3, 0] rfl h
set_option maxRecDepth 100000 in
set_option maxHeartbeats 4000000 in
theorem b_X12_laysThere_65 {z : amZ} {post : amP} {G : amG} {I : amI} {L : amL} (hz : Go z cX12_laysThere RX12 5 none 3 0 0 post) (hG : Lay G) {v1 : Int32} {v2 : Int32} {v3 : Int32} {v4 : Int32} (h : (((I 67 (0 : Int32).toNatClampNeg) ≤ v4) → Wx z 0 0 14 [(0, .ref ((zB z).size + 64)), (1, .int v1), (2, .int v2), (3, .int (v3 + 1))] [] G I L) ∧ ((¬ (I 67 (0 : Int32).toNatClampNeg) ≤ v4) → ((v4 = v3) → Wx z 0 0 65 [(0, .ref ((zB z).size + 64)), (1, .int v1), (2, .int v2), (3, .int v3), (4, .int (v4 + 1))] [] G I L) ∧ ((¬ v4 = v3) → (vp_in v3 32) ∧ ((m_amT I v3 v4 = false) → Wx z 0 0 65 [(0, .ref ((zB z).size + 64)), (1, .int v1), (2, .int v2), (3, .int v3), (4, .int (v4 + 1))] [] G I L) ∧ ((m_amT I v3 v4 = true) → (vp_in v4 32) ∧ ((m_amT I v4 v1 = false) → Wx z 0 0 65 [(0, .ref ((zB z).size + 64)), (1, .int v1), (2, .int v2), (3, .int v3), (4, .int (v4 + 1))] [] G I L) ∧ ((m_amT I v4 v1 = true) → vp_in v3 16 ∧ vp_in v4 16 ∧ vp_in v3 16 ∧ Wx z 0 0 65 [(0, .ref ((zB z).size + 64)), (1, .int v1), (2, .int v2), (3, .int v3), (4, .int (v4 + 1))] [] G I (setL L 84 (vp_updL (L 84) v3.toNatClampNeg ((L 84 v3.toNatClampNeg) - (L 84 v4.toNatClampNeg))))))))) : Wx z 0 0 65 [(0, .ref ((zB z).size + 64)), (1, .int v1), (2, .int v2), (3, .int v3), (4, .int v4)] [] G I L := by
  have hz1 := hz.1
  refine am_iload hz1 dX12_laysThere_65 4 rfl ?_
  refine am_aload_n hz1 dX12_laysThere_67 0 rfl rfl ?_
  refine am_getR hz1 fl_X12_18 (ln_64 hG) (lk_64 hG) (lr_64_3 hG) rfl dX12_laysThere_68 ?_
  refine am_iconst (v := 0) hz1 dX12_laysThere_71 (by decide) ?_
  refine am_iald hz1 (ln_67 hG) (lk_67 hG) (by rw [(ll_67 hG)]; exact in_nI (n := 0) (by decide) (by decide)) dX12_laysThere_72 ?_
  refine am_icmp_ge (tgt := 124) hz1 dX12_laysThere_73 (by decide) (fun c2 => ?_) (fun c2 => ?_)
  · replace h := h.1 c2
    refine am_iinc (v := v3 + 1) (lv' := [(3, .int (v3 + 1)), (0, .ref ((zB z).size + 64)), (1, .int v1), (2, .int v2), (4, .int v4)]) hz1 dX12_laysThere_124 3 rfl rfl rfl rfl ?_
    refine am_goto (tgt := 14) hz1 dX12_laysThere_127 (by decide) ?_
    exact am_sub (lv' := [(0, .ref ((zB z).size + 64)), (1, .int v1), (2, .int v2), (3, .int (v3 + 1))]) [1, 2, 3, 0] rfl h
  · replace h := h.2 c2
    refine am_iload hz1 dX12_laysThere_76 4 rfl ?_
    refine am_iload_n hz1 dX12_laysThere_78 3 rfl rfl ?_
    refine am_icmp_eq (tgt := 118) hz1 dX12_laysThere_79 (by decide) (fun c3 => ?_) (fun c3 => ?_)
    · replace h := h.1 c3
      refine am_iinc (v := v4 + 1) (lv' := [(4, .int (v4 + 1)), (0, .ref ((zB z).size + 64)), (1, .int v1), (2, .int v2), (3, .int v3)]) hz1 dX12_laysThere_118 4 rfl rfl rfl rfl ?_
      refine am_goto (tgt := 65) hz1 dX12_laysThere_121 (by decide) ?_
      exact am_sub (lv' := [(0, .ref ((zB z).size + 64)), (1, .int v1), (2, .int v2), (3, .int v3), (4, .int (v4 + 1))]) [1, 2, 3, 4, 0] rfl h
    · replace h := h.2 c3
      refine am_aload_n hz1 dX12_laysThere_82 0 rfl rfl ?_
      refine am_iload_n hz1 dX12_laysThere_83 3 rfl rfl ?_
      refine am_iload hz1 dX12_laysThere_84 4 rfl ?_
      obtain ⟨g4, h⟩ := h
      refine am_cVf hz cv_X12_455 [.int v3, .int v4] [] (c_X12_isAtMostThere hG v3 v4 g4) (ln_64 hG) (lk_64 hG) rfl rfl rfl ⟨Nat.le_refl _, Nat.le_refl _⟩ (Nat.le_of_ble_eq_true rfl) dX12_laysThere_86 ?_
      refine am_ifb_eq (tgt := 118) hz1 dX12_laysThere_89 (by decide) (fun c5 => ?_) (fun c5 => ?_)
      · replace h := h.1 c5
        refine am_iinc (v := v4 + 1) (lv' := [(4, .int (v4 + 1)), (0, .ref ((zB z).size + 64)), (1, .int v1), (2, .int v2), (3, .int v3)]) hz1 dX12_laysThere_118 4 rfl rfl rfl rfl ?_
        refine am_goto (tgt := 65) hz1 dX12_laysThere_121 (by decide) ?_
        exact am_sub (lv' := [(0, .ref ((zB z).size + 64)), (1, .int v1), (2, .int v2), (3, .int v3), (4, .int (v4 + 1))]) [1, 2, 3, 4, 0] rfl h
      · replace h := h.2 c5
        refine am_aload_n hz1 dX12_laysThere_92 0 rfl rfl ?_
        refine am_iload hz1 dX12_laysThere_93 4 rfl ?_
        refine am_iload_n hz1 dX12_laysThere_95 1 rfl rfl ?_
        obtain ⟨g6, h⟩ := h
        refine am_cVf hz cv_X12_455 [.int v4, .int v1] [] (c_X12_isAtMostThere hG v4 v1 g6) (ln_64 hG) (lk_64 hG) rfl rfl rfl ⟨Nat.le_refl _, Nat.le_refl _⟩ (Nat.le_of_ble_eq_true rfl) dX12_laysThere_96 ?_
        refine am_ifb_eq (tgt := 118) hz1 dX12_laysThere_99 (by decide) (fun c7 => ?_) (fun c7 => ?_)
        · replace h := h.1 c7
          refine am_iinc (v := v4 + 1) (lv' := [(4, .int (v4 + 1)), (0, .ref ((zB z).size + 64)), (1, .int v1), (2, .int v2), (3, .int v3)]) hz1 dX12_laysThere_118 4 rfl rfl rfl rfl ?_
          refine am_goto (tgt := 65) hz1 dX12_laysThere_121 (by decide) ?_
          exact am_sub (lv' := [(0, .ref ((zB z).size + 64)), (1, .int v1), (2, .int v2), (3, .int v3), (4, .int (v4 + 1))]) [1, 2, 3, 4, 0] rfl h
        · replace h := h.2 c7
          refine am_aload_n hz1 dX12_laysThere_102 0 rfl rfl ?_
          refine am_getR hz1 fl_X12_72 (ln_64 hG) (lk_64 hG) (lr_64_32 hG) rfl dX12_laysThere_103 ?_
          refine am_iload_n hz1 dX12_laysThere_106 3 rfl rfl ?_
          refine am_dup2 hz1 dX12_laysThere_107 rfl rfl ?_
          obtain ⟨g8, h⟩ := h
          refine am_lald hz1 (ln_84 hG) (lk_84 hG) (by rw [(ll_84 hG)]; exact g8) dX12_laysThere_108 ?_
          refine am_aload_n hz1 dX12_laysThere_109 0 rfl rfl ?_
          refine am_getR hz1 fl_X12_72 (ln_64 hG) (lk_64 hG) (lr_64_32 hG) rfl dX12_laysThere_110 ?_
          refine am_iload hz1 dX12_laysThere_113 4 rfl ?_
          obtain ⟨g9, h⟩ := h
          refine am_lald hz1 (ln_84 hG) (lk_84 hG) (by rw [(ll_84 hG)]; exact g9) dX12_laysThere_115 ?_
          refine am_lsub hz1 dX12_laysThere_116 ?_
          obtain ⟨g10, h⟩ := h
          refine am_last hz1 (ln_84 hG) (lk_84 hG) (by rw [(ll_84 hG)]; exact g10) dX12_laysThere_117 ?_
          refine am_iinc (v := v4 + 1) (lv' := [(4, .int (v4 + 1)), (0, .ref ((zB z).size + 64)), (1, .int v1), (2, .int v2), (3, .int v3)]) hz1 dX12_laysThere_118 4 rfl rfl rfl rfl ?_
          refine am_goto (tgt := 65) hz1 dX12_laysThere_121 (by decide) ?_
          exact am_sub (lv' := [(0, .ref ((zB z).size + 64)), (1, .int v1), (2, .int v2), (3, .int v3), (4, .int (v4 + 1))]) [1, 2, 3, 4, 0] rfl h
set_option maxRecDepth 100000 in
set_option maxHeartbeats 4000000 in
theorem c_X12_laysThere {l : Launch} {D : va_G} {B : Heap} {G : amG} {I : amI} {L : amL}  (hG : Lay G)  (v1 : Int32) {k q : Nat} {A : Nat → Int32} (hK : KO I 0 k A) (hq : q < k) (hv : v1 = nI q) : Mx l D B yX12_laysThere cX12_laysThere 5 none 3 0 0 [.ref (B.size + 64), .int v1] G I L (fun r G1 I1 L1 => r = none ∧ G1 = G ∧ I1 = I ∧ ∃ f : Nat → Int64, L1 = setL L 84 f ∧ ∀ y, y < k → le A y q = true → f y = nu k A q y) := by
  refine Mx.of (by decide) rfl rfl (fun z e1 e2 e3 hz => ?_)
  subst e1; subst e2; subst e3
  refine b_X12_laysThere_0 hz hG ?_
  subst hv
  have h16 := hK.2.1
  have hP := hK.2.2.1
  have ek := hK.2.2.2.1
  have mm : ¬ I 67 (0 : Int32).toNatClampNeg < nI k := by show ¬ I 67 0 < nI k; rw [ek]; exact nI_nlt (Nat.le_refl _) (by omega)
  have outer : ∀ f : Nat → Int64, (∀ y, y < k → le A y q = true → rkS k A y q < 1 + 0 → f y = nu k A q y) → Wx z 0 0 2 [(0, .ref ((zB z).size + 64)), (1, .int (nI q)), (2, .int (nI (1 + 0)))] [] G I (setL L 84 f) := by
    refine for_up (P := fun N => ∀ f : Nat → Int64, (∀ y, y < k → le A y q = true → rkS k A y q < 1 + N → f y = nu k A q y) → Wx z 0 0 2 [(0, .ref ((zB z).size + 64)), (1, .int (nI q)), (2, .int (nI (1 + N)))] [] G I (setL L 84 f)) (n := k) ?_ ?_ (Nat.zero_le _)
    · intro f hf
      refine b_X12_laysThere_2 hz hG ⟨fun _ => ⟨rfl, rfl, rfl, f, rfl, fun y hy hl => hf y hy hl (by have := rk_le (A := A) (a := y) h16 hq; omega)⟩, fun h => absurd ?_ h⟩
      show I 67 0 < nI (1 + k)
      rw [ek]; exact nI_lt (by omega) (by omega)
    · intro N hN ih f hf
      refine b_X12_laysThere_2 hz hG ⟨fun h => absurd h ?_, fun _ => ?_⟩
      · show ¬ I 67 0 < nI (1 + N)
        rw [ek]; exact nI_nlt (by omega) (by omega)
      have rows : ∀ f : Nat → Int64, (∀ y, y < k → le A y q = true → (rkS k A y q < 1 + N ∨ rkS k A y q = 1 + N ∧ y < 0) → f y = nu k A q y) → Wx z 0 0 14 [(0, .ref ((zB z).size + 64)), (1, .int (nI q)), (2, .int (nI (1 + N))), (3, .int (nI 0))] [] G I (setL L 84 f) := by
        refine for_up (P := fun y => ∀ f : Nat → Int64, (∀ y', y' < k → le A y' q = true → (rkS k A y' q < 1 + N ∨ rkS k A y' q = 1 + N ∧ y' < y) → f y' = nu k A q y') → Wx z 0 0 14 [(0, .ref ((zB z).size + 64)), (1, .int (nI q)), (2, .int (nI (1 + N))), (3, .int (nI y))] [] G I (setL L 84 f)) (n := k) ?_ ?_ (Nat.zero_le _)
        · intro f hf
          refine b_X12_laysThere_14 hz hG ⟨fun _ => ?_, fun h => absurd (tk_le ek h16) h⟩
          rw [nI_1]
          exact ih f (fun y hy hl hr => hf y hy hl (by omega))
        · intro y hy yh f hf
          have hrl := rk_le (A := A) (a := y) h16 hq
          refine b_X12_laysThere_14 hz hG ⟨fun h => absurd h (tk_ge ek h16 hy), fun _ => ⟨in_nI (by omega) (by decide), fun h => ?_, fun h => ⟨⟨k, h16, ek⟩, in_nI (by omega) (by decide), ?_⟩⟩⟩
          · rw [hK.am hy (by omega)] at h
            rw [nI_1]
            refine yh f (fun y' hy' hl hr => hf y' hy' hl ?_)
            by_cases e : y' = y
            · subst e; rw [h] at hl; cases hl
            · omega
          · rw [hK.am hy (by omega)] at h
            rw [hK.sz hy hq, nI_eq (by omega) (by omega), cl_nI (n := y) (by omega), setL_ss, setL_s, setL_ss]
            have body : ∀ D : Int64, D = (if y = q then 1 else 0) → rkS k A y q = 1 + N → Wx z 0 0 65 [(0, .ref ((zB z).size + 64)), (1, .int (nI q)), (2, .int (nI (1 + N))), (3, .int (nI y)), (4, .int (nI 0))] [] G I (setL L 84 (vp_updL f y D)) := by
              intro D hD hr
              have main := for_up (P := fun w => Wx z 0 0 65 [(0, .ref ((zB z).size + 64)), (1, .int (nI q)), (2, .int (nI (1 + N))), (3, .int (nI y)), (4, .int (nI w))] [] G I (setL L 84 (vp_updL f y (D - sumC (fun w => decide (¬ w = y) && (le A y w && le A w q)) (nu k A q) w)))) (n := k) ?_ ?_ (Nat.zero_le _)
              · rw [sumC, Int64.sub_zero] at main
                exact main
              · refine b_X12_laysThere_65 hz hG ⟨fun _ => ?_, fun h => absurd (tk_le ek h16) h⟩
                rw [nI_1]
                refine yh _ (fun y' hy' hl hr' => ?_)
                by_cases e : y' = y
                · subst e
                  have hs : sumC (fun w => decide (¬ w = y') && (le A y' w && le A w q)) (nu k A q) k = sumS (nu k A q) (dnS k A q &&& A y') k := by
                    rw [← sumC_S]
                    refine sumC_c (fun w hw => ⟨?_, fun _ => rfl⟩)
                    rw [b_and, dn_b (by omega) hq (by omega), decide_eq_true hw, Bool.true_and, lt_b hP (by omega) hy hw]
                    rw [show decide (¬ w = y') = decide (¬ y' = w) from decide_eq_decide.mpr (not_congr ⟨Eq.symm, Eq.symm⟩)]
                    cases le A y' w <;> cases le A w q <;> cases decide (¬ y' = w) <;> rfl
                  rw [updL_s, hs, nu_is hP y' hy, hD]
                  by_cases e2 : y' = q
                  · subst e2
                    rw [if_pos rfl, if_pos rfl, ← hs, sumC_z, Int64.sub_zero]
                    intro w hw q2
                    rw [Bool.and_eq_true, Bool.and_eq_true, decide_eq_true_eq] at q2
                    exact absurd (le_as hP (by omega) hw hy q2.2.2 q2.2.1) q2.1
                  · rw [if_neg e2, if_neg e2, Int64.zero_sub]
                · rw [updL_n e]
                  exact hf y' hy' hl (by omega)
              · intro w hw wh
                refine b_X12_laysThere_65 hz hG ⟨fun h => absurd h (tk_ge ek h16 hw), fun _ => ⟨fun g => ?_, fun g => ⟨in_nI (by omega) (by decide), fun g2 => ?_, fun g2 => ⟨in_nI (by omega) (by decide), fun g3 => ?_, fun g3 => ⟨in16 h16 hy, in16 h16 hw, in16 h16 hy, ?_⟩⟩⟩⟩⟩
                · rw [sumC, if_neg (by rw [decide_eq_false (not_not_intro ((nI_eq (by omega) (by omega)).mp g))]; simp)] at wh
                  rw [nI_1]
                  exact wh
                · rw [hK.am hy (by omega)] at g2
                  rw [sumC, if_neg (by rw [g2]; simp)] at wh
                  rw [nI_1]
                  exact wh
                · rw [hK.am hw (by omega)] at g3
                  rw [sumC, if_neg (by rw [g3]; simp)] at wh
                  rw [nI_1]
                  exact wh
                · rw [hK.am hy (by omega)] at g2
                  rw [hK.am hw (by omega)] at g3
                  have hne : w ≠ y := fun e => g (by rw [e])
                  have hrk := rk_dn hP h16 hy hw hq g2 g3 (Ne.symm hne)
                  rw [sumC, if_pos (by rw [g2, g3, decide_eq_true hne]; rfl)] at wh
                  rw [nI_1, setL_ss, setL_s, cl_nI (n := y) (by omega), cl_nI (n := w) (by omega), updL_s, updL_n hne, updL_u, hf w hw g3 (by omega), Int64.sub_sub]
                  exact wh
            refine ⟨fun hr => ⟨fun g => ⟨in16 h16 hy, body 0 (by rw [if_neg (fun e => g (by rw [e]))]) hr⟩, fun g => ⟨in16 h16 hy, body 1 (by rw [if_pos ((nI_eq (by omega) (by omega)).mp g)]) hr⟩⟩, fun hr => ?_⟩
            rw [nI_1]
            refine yh f (fun y' hy' hl hr' => hf y' hy' hl ?_)
            by_cases e : y' = y
            · subst e; omega
            · omega
      exact rows f (fun y hy hl hr => hf y hy hl (by omega))
  have := outer (L 84) (fun y hy hl hr => absurd (rk_1 h16 hy hq hl) (by omega))
  rw [setL_id] at this
  exact this
set_option maxRecDepth 100000 in
set_option maxHeartbeats 4000000 in
theorem b_X12_sideHere_0 {z : amZ} {post : amP} {G : amG} {I : amI} {L : amL} (hz : Go z cX12_sideHere RX12 6 (some .long) 6 0 0 post) (hG : Lay G) {v1 : Int32} {v2 : Int32} (h : ∃ (dq1 : Nat) (postq1 : amP), Nat.ble (dq1 + 1) 6 = true ∧ Mx (zL z) (zD z) (zB z) yX12_moebiusMade cX12_moebiusMade 4 none dq1 0 0 [.ref ((zB z).size + 64)] G I L postq1 ∧ ∀ (roq1 : Option Value) (Gq1 : amG) (Iq1 : amI) (Lq1 : amL), postq1 roq1 Gq1 Iq1 Lq1 → roq1 = none ∧ Lay Gq1 ∧ Wx z 0 0 9 [(0, .ref ((zB z).size + 64)), (1, .int v1), (2, .int v2), (3, .long (0 : Int64)), (5, .int 0)] [] Gq1 Iq1 Lq1) : Wx z 0 0 0 [(0, .ref ((zB z).size + 64)), (1, .int v1), (2, .int v2)] [] G I L := by
  have hz1 := hz.1
  refine am_aload_n hz1 dX12_sideHere_0 0 rfl rfl ?_
  obtain ⟨dq1, postq1, hdq1, hMq1, h⟩ := h
  refine am_callV hz1 cv_X12_283 [] [] hMq1 (ln_64 hG) (lk_64 hG) rfl rfl (hz.fr hdq1) (hz.lo hdq1) (by rw [hz.2.1]; exact ⟨Nat.le_refl _, Nat.le_refl _⟩) (Nat.le_of_ble_eq_true rfl) dX12_sideHere_1 (fun roq1 Gq1 Iq1 Lq1 hpq1 => ?_)
  obtain ⟨rfl, hGq1, h⟩ := h roq1 Gq1 Iq1 Lq1 hpq1
  refine am_lconst (v := 0) hz1 dX12_sideHere_4 (by decide) ?_
  refine am_lstore_n (lv' := [(3, .long (0 : Int64)), (0, .ref ((zB z).size + 64)), (1, .int v1), (2, .int v2)]) hz1 dX12_sideHere_5 rfl rfl rfl ?_
  refine am_iconst (v := 0) hz1 dX12_sideHere_6 (by decide) ?_
  refine am_istore (lv' := [(5, .int 0), (3, .long (0 : Int64)), (0, .ref ((zB z).size + 64)), (1, .int v1), (2, .int v2)]) hz1 dX12_sideHere_7 rfl rfl ?_
  exact am_sub (lv' := [(0, .ref ((zB z).size + 64)), (1, .int v1), (2, .int v2), (3, .long (0 : Int64)), (5, .int 0)]) [2, 3, 4, 1, 0] rfl h
set_option maxRecDepth 100000 in
set_option maxHeartbeats 4000000 in
theorem b_X12_sideHere_9 {z : amZ} {post : amP} {G : amG} {I : amI} {L : amL} (hz : Go z cX12_sideHere RX12 6 (some .long) 6 0 0 post) (hG : Lay G) {v1 : Int32} {v2 : Int32} {v3 : Int64} {v5 : Int32} (h : (((m_many L) ≤ v5) → post (some (.long v3)) G I L) ∧ ((¬ (m_many L) ≤ v5) → (vp_in v1 16) ∧ ((m_am L v1 v5 = false) → Wx z 0 0 9 [(0, .ref ((zB z).size + 64)), (1, .int v1), (2, .int v2), (3, .long v3), (5, .int (v5 + 1))] [] G I L) ∧ ((m_am L v1 v5 = true) → (vp_in v5 16) ∧ ((¬ (m_map L v5) = v2) → Wx z 0 0 9 [(0, .ref ((zB z).size + 64)), (1, .int v1), (2, .int v2), (3, .long v3), (5, .int (v5 + 1))] [] G I L) ∧ (((m_map L v5) = v2) → vp_in (((16 : Int32) * v1) + v5) 256 ∧ Wx z 0 0 9 [(0, .ref ((zB z).size + 64)), (1, .int v1), (2, .int v2), (3, .long (v3 + (L 72 (((16 : Int32) * v1) + v5).toNatClampNeg))), (5, .int (v5 + 1))] [] G I L)))) : Wx z 0 0 9 [(0, .ref ((zB z).size + 64)), (1, .int v1), (2, .int v2), (3, .long v3), (5, .int v5)] [] G I L := by
  have hz1 := hz.1
  refine am_iload hz1 dX12_sideHere_9 4 rfl ?_
  refine am_aload_n hz1 dX12_sideHere_11 0 rfl rfl ?_
  refine am_cVf hz cv_X12_78 [] [.int v5] (c_X12_many hG  ) (ln_64 hG) (lk_64 hG) rfl rfl rfl ⟨Nat.le_refl _, Nat.le_refl _⟩ (Nat.le_of_ble_eq_true rfl) dX12_sideHere_12 ?_
  refine am_icmp_ge (tgt := 59) hz1 dX12_sideHere_15 (by decide) (fun c1 => ?_) (fun c1 => ?_)
  · replace h := h.1 c1
    refine am_lload_n hz1 dX12_sideHere_59 3 rfl rfl ?_
    exact am_lreturn hz dX12_sideHere_60 h
  · replace h := h.2 c1
    refine am_aload_n hz1 dX12_sideHere_18 0 rfl rfl ?_
    refine am_iload_n hz1 dX12_sideHere_19 1 rfl rfl ?_
    refine am_iload hz1 dX12_sideHere_20 4 rfl ?_
    obtain ⟨g2, h⟩ := h
    refine am_cVf hz cv_X12_94 [.int v1, .int v5] [] (c_X12_isAtMost hG v1 v5 g2) (ln_64 hG) (lk_64 hG) rfl rfl rfl ⟨Nat.le_refl _, Nat.le_refl _⟩ (Nat.le_of_ble_eq_true rfl) dX12_sideHere_22 ?_
    refine am_ifb_eq (tgt := 53) hz1 dX12_sideHere_25 (by decide) (fun c3 => ?_) (fun c3 => ?_)
    · replace h := h.1 c3
      refine am_iinc (v := v5 + 1) (lv' := [(5, .int (v5 + 1)), (0, .ref ((zB z).size + 64)), (1, .int v1), (2, .int v2), (3, .long v3)]) hz1 dX12_sideHere_53 4 rfl rfl rfl rfl ?_
      refine am_goto (tgt := 9) hz1 dX12_sideHere_56 (by decide) ?_
      exact am_sub (lv' := [(0, .ref ((zB z).size + 64)), (1, .int v1), (2, .int v2), (3, .long v3), (5, .int (v5 + 1))]) [1, 2, 3, 4, 0] rfl h
    · replace h := h.2 c3
      refine am_aload_n hz1 dX12_sideHere_28 0 rfl rfl ?_
      refine am_iload hz1 dX12_sideHere_29 4 rfl ?_
      obtain ⟨g4, h⟩ := h
      refine am_cVf hz cv_X12_452 [.int v5] [] (c_X12_mapOf hG v5 g4) (ln_64 hG) (lk_64 hG) rfl rfl rfl ⟨Nat.le_refl _, Nat.le_refl _⟩ (Nat.le_of_ble_eq_true rfl) dX12_sideHere_31 ?_
      refine am_iload_n hz1 dX12_sideHere_34 2 rfl rfl ?_
      refine am_icmp_ne (tgt := 53) hz1 dX12_sideHere_35 (by decide) (fun c5 => ?_) (fun c5 => ?_)
      · replace h := h.1 c5
        refine am_iinc (v := v5 + 1) (lv' := [(5, .int (v5 + 1)), (0, .ref ((zB z).size + 64)), (1, .int v1), (2, .int v2), (3, .long v3)]) hz1 dX12_sideHere_53 4 rfl rfl rfl rfl ?_
        refine am_goto (tgt := 9) hz1 dX12_sideHere_56 (by decide) ?_
        exact am_sub (lv' := [(0, .ref ((zB z).size + 64)), (1, .int v1), (2, .int v2), (3, .long v3), (5, .int (v5 + 1))]) [1, 2, 3, 4, 0] rfl h
      · replace h := h.2 c5
        refine am_lload_n hz1 dX12_sideHere_38 3 rfl rfl ?_
        refine am_aload_n hz1 dX12_sideHere_39 0 rfl rfl ?_
        refine am_getR hz1 fl_X12_35 (ln_64 hG) (lk_64 hG) (lr_64_16 hG) rfl dX12_sideHere_40 ?_
        refine am_bipush (v := 16) hz1 dX12_sideHere_43 (by decide) ?_
        refine am_iload_n hz1 dX12_sideHere_45 1 rfl rfl ?_
        refine am_imul hz1 dX12_sideHere_46 ?_
        refine am_iload hz1 dX12_sideHere_47 4 rfl ?_
        refine am_iadd hz1 dX12_sideHere_49 ?_
        obtain ⟨g6, h⟩ := h
        refine am_lald hz1 (ln_72 hG) (lk_72 hG) (by rw [(ll_72 hG)]; exact g6) dX12_sideHere_50 ?_
        refine am_ladd hz1 dX12_sideHere_51 ?_
        refine am_lstore_n (lv' := [(3, .long (v3 + (L 72 (((16 : Int32) * v1) + v5).toNatClampNeg))), (0, .ref ((zB z).size + 64)), (1, .int v1), (2, .int v2), (5, .int v5)]) hz1 dX12_sideHere_52 rfl rfl rfl ?_
        refine am_iinc (v := v5 + 1) (lv' := [(5, .int (v5 + 1)), (3, .long (v3 + (L 72 (((16 : Int32) * v1) + v5).toNatClampNeg))), (0, .ref ((zB z).size + 64)), (1, .int v1), (2, .int v2)]) hz1 dX12_sideHere_53 4 rfl rfl rfl rfl ?_
        refine am_goto (tgt := 9) hz1 dX12_sideHere_56 (by decide) ?_
        exact am_sub (lv' := [(0, .ref ((zB z).size + 64)), (1, .int v1), (2, .int v2), (3, .long (v3 + (L 72 (((16 : Int32) * v1) + v5).toNatClampNeg))), (5, .int (v5 + 1))]) [2, 3, 4, 1, 0] rfl h
set_option maxRecDepth 100000 in
set_option maxHeartbeats 4000000 in
theorem c_X12_sideHere {l : Launch} {D : va_G} {B : Heap} {G : amG} {I : amI} {L : amL}  (hG : Lay G)  (v1 : Int32) (v2 : Int32) {n p : Nat} {A : Nat → Int32} (hM : MO L n A) (hp : p < n) (hv : v1 = nI p) : Mx l D B yX12_sideHere cX12_sideHere 6 (some .long) 6 0 0 [.ref (B.size + 64), .int v1, .int v2] G I L (fun r G1 I1 L1 => r = some (.long (sumC (fun x => le A p x && decide (m_map L (nI x) = v2)) (mu n A p) n)) ∧ G1 = G ∧ I1 = I ∧ ∃ f : Nat → Int64, L1 = setL L 72 f) := by
  refine Mx.of (by decide) rfl rfl (fun z e1 e2 e3 hz => ?_)
  subst e1; subst e2; subst e3
  refine b_X12_sideHere_0 hz hG ?_
  subst hv
  have h16 := hM.2.1
  refine ⟨5, _, rfl, c_X12_moebiusMade hG hM, fun ro G2 I2 L2 ⟨e1, e2, e3, f, e4, e5⟩ => ⟨e1, by rw [e2]; exact hG, ?_⟩⟩
  rw [e2, e3, e4]
  have hO : MO (setL L 72 f) n A := MO_72 hM (by decide)
  have hmap : ∀ x, m_map (setL L 72 f) x = m_map L x := fun x => by unfold m_map; rw [setL_n (by decide)]
  refine for_up (P := fun i => Wx z 0 0 9 [(0, .ref ((zB z).size + 64)), (1, .int (nI p)), (2, .int v2), (3, .long (sumC (fun x => le A p x && decide (m_map L (nI x) = v2)) (mu n A p) i)), (5, .int (nI i))] [] G I (setL L 72 f)) (n := n) ?_ ?_ (Nat.zero_le _)
  · exact b_X12_sideHere_9 hz hG ⟨fun _ => ⟨rfl, rfl, rfl, f, rfl⟩, fun h => absurd (mm_le hO) h⟩
  · intro i hi ih
    refine b_X12_sideHere_9 hz hG ⟨fun h => absurd h (mm_ge hO hi), fun _ => ⟨in16 h16 hp, fun g => ?_, fun g => ⟨in16 h16 hi, fun g2 => ?_, fun g2 => ⟨by rw [c16]; exact in_nI (by omega) (by decide), ?_⟩⟩⟩⟩
    · rw [hO.am hp (by omega)] at g
      rw [sumC, if_neg (by rw [g]; simp)] at ih
      rw [nI_1]
      exact ih
    · rw [hmap] at g2
      rw [sumC, if_neg (by rw [decide_eq_false g2]; simp)] at ih
      rw [nI_1]
      exact ih
    · rw [hO.am hp (by omega)] at g
      rw [hmap] at g2
      rw [sumC, if_pos (by rw [g, decide_eq_true g2]; rfl)] at ih
      rw [nI_1, c16, cl_nI (n := 16 * p + i) (by omega), setL_s, e5 p i (by omega) (by omega), if_pos ⟨hp, hi⟩, muT, if_pos g]
      exact ih
set_option maxRecDepth 100000 in
set_option maxHeartbeats 4000000 in
theorem b_X12_sideThere_0 {z : amZ} {post : amP} {G : amG} {I : amI} {L : amL} (hz : Go z cX12_sideThere RX12 6 (some .long) 5 0 0 post) (hG : Lay G) {v1 : Int32} {v2 : Int32} (h : ∃ (dq1 : Nat) (postq1 : amP), Nat.ble (dq1 + 1) 5 = true ∧ Mx (zL z) (zD z) (zB z) yX12_laysThere cX12_laysThere 5 none dq1 0 0 [.ref ((zB z).size + 64), .int v2] G I L postq1 ∧ ∀ (roq1 : Option Value) (Gq1 : amG) (Iq1 : amI) (Lq1 : amL), postq1 roq1 Gq1 Iq1 Lq1 → roq1 = none ∧ Lay Gq1 ∧ Wx z 0 0 10 [(0, .ref ((zB z).size + 64)), (1, .int v1), (2, .int v2), (3, .long (0 : Int64)), (5, .int 0)] [] Gq1 Iq1 Lq1) : Wx z 0 0 0 [(0, .ref ((zB z).size + 64)), (1, .int v1), (2, .int v2)] [] G I L := by
  have hz1 := hz.1
  refine am_aload_n hz1 dX12_sideThere_0 0 rfl rfl ?_
  refine am_iload_n hz1 dX12_sideThere_1 2 rfl rfl ?_
  obtain ⟨dq1, postq1, hdq1, hMq1, h⟩ := h
  refine am_callV hz1 cv_X12_476 [.int v2] [] hMq1 (ln_64 hG) (lk_64 hG) rfl rfl (hz.fr hdq1) (hz.lo hdq1) (by rw [hz.2.1]; exact ⟨Nat.le_refl _, Nat.le_refl _⟩) (Nat.le_of_ble_eq_true rfl) dX12_sideThere_2 (fun roq1 Gq1 Iq1 Lq1 hpq1 => ?_)
  obtain ⟨rfl, hGq1, h⟩ := h roq1 Gq1 Iq1 Lq1 hpq1
  refine am_lconst (v := 0) hz1 dX12_sideThere_5 (by decide) ?_
  refine am_lstore_n (lv' := [(3, .long (0 : Int64)), (0, .ref ((zB z).size + 64)), (1, .int v1), (2, .int v2)]) hz1 dX12_sideThere_6 rfl rfl rfl ?_
  refine am_iconst (v := 0) hz1 dX12_sideThere_7 (by decide) ?_
  refine am_istore (lv' := [(5, .int 0), (3, .long (0 : Int64)), (0, .ref ((zB z).size + 64)), (1, .int v1), (2, .int v2)]) hz1 dX12_sideThere_8 rfl rfl ?_
  exact am_sub (lv' := [(0, .ref ((zB z).size + 64)), (1, .int v1), (2, .int v2), (3, .long (0 : Int64)), (5, .int 0)]) [2, 3, 4, 1, 0] rfl h
set_option maxRecDepth 100000 in
set_option maxHeartbeats 4000000 in
theorem b_X12_sideThere_10 {z : amZ} {post : amP} {G : amG} {I : amI} {L : amL} (hz : Go z cX12_sideThere RX12 6 (some .long) 5 0 0 post) (hG : Lay G) {v1 : Int32} {v2 : Int32} {v3 : Int64} {v5 : Int32} (h : (((I 67 (0 : Int32).toNatClampNeg) ≤ v5) → post (some (.long v3)) G I L) ∧ ((¬ (I 67 (0 : Int32).toNatClampNeg) ≤ v5) → (vp_in v5 32) ∧ ((m_amT I v5 v2 = false) → Wx z 0 0 10 [(0, .ref ((zB z).size + 64)), (1, .int v1), (2, .int v2), (3, .long v3), (5, .int (v5 + 1))] [] G I L) ∧ ((m_amT I v5 v2 = true) → (mOk L) ∧ (mpOk L) ∧ ((¬ (m_adj I L v5) = v1) → Wx z 0 0 10 [(0, .ref ((zB z).size + 64)), (1, .int v1), (2, .int v2), (3, .long v3), (5, .int (v5 + 1))] [] G I L) ∧ (((m_adj I L v5) = v1) → vp_in v5 16 ∧ Wx z 0 0 10 [(0, .ref ((zB z).size + 64)), (1, .int v1), (2, .int v2), (3, .long (v3 + (L 84 v5.toNatClampNeg))), (5, .int (v5 + 1))] [] G I L)))) : Wx z 0 0 10 [(0, .ref ((zB z).size + 64)), (1, .int v1), (2, .int v2), (3, .long v3), (5, .int v5)] [] G I L := by
  have hz1 := hz.1
  refine am_iload hz1 dX12_sideThere_10 4 rfl ?_
  refine am_aload_n hz1 dX12_sideThere_12 0 rfl rfl ?_
  refine am_getR hz1 fl_X12_18 (ln_64 hG) (lk_64 hG) (lr_64_3 hG) rfl dX12_sideThere_13 ?_
  refine am_iconst (v := 0) hz1 dX12_sideThere_16 (by decide) ?_
  refine am_iald hz1 (ln_67 hG) (lk_67 hG) (by rw [(ll_67 hG)]; exact in_nI (n := 0) (by decide) (by decide)) dX12_sideThere_17 ?_
  refine am_icmp_ge (tgt := 57) hz1 dX12_sideThere_18 (by decide) (fun c2 => ?_) (fun c2 => ?_)
  · replace h := h.1 c2
    refine am_lload_n hz1 dX12_sideThere_57 3 rfl rfl ?_
    exact am_lreturn hz dX12_sideThere_58 h
  · replace h := h.2 c2
    refine am_aload_n hz1 dX12_sideThere_21 0 rfl rfl ?_
    refine am_iload hz1 dX12_sideThere_22 4 rfl ?_
    refine am_iload_n hz1 dX12_sideThere_24 2 rfl rfl ?_
    obtain ⟨g3, h⟩ := h
    refine am_cVf hz cv_X12_455 [.int v5, .int v2] [] (c_X12_isAtMostThere hG v5 v2 g3) (ln_64 hG) (lk_64 hG) rfl rfl rfl ⟨Nat.le_refl _, Nat.le_refl _⟩ (Nat.le_of_ble_eq_true rfl) dX12_sideThere_25 ?_
    refine am_ifb_eq (tgt := 51) hz1 dX12_sideThere_28 (by decide) (fun c4 => ?_) (fun c4 => ?_)
    · replace h := h.1 c4
      refine am_iinc (v := v5 + 1) (lv' := [(5, .int (v5 + 1)), (0, .ref ((zB z).size + 64)), (1, .int v1), (2, .int v2), (3, .long v3)]) hz1 dX12_sideThere_51 4 rfl rfl rfl rfl ?_
      refine am_goto (tgt := 10) hz1 dX12_sideThere_54 (by decide) ?_
      exact am_sub (lv' := [(0, .ref ((zB z).size + 64)), (1, .int v1), (2, .int v2), (3, .long v3), (5, .int (v5 + 1))]) [1, 2, 3, 4, 0] rfl h
    · replace h := h.2 c4
      refine am_aload_n hz1 dX12_sideThere_31 0 rfl rfl ?_
      refine am_iload hz1 dX12_sideThere_32 4 rfl ?_
      obtain ⟨g5, h⟩ := h
      obtain ⟨g6, h⟩ := h
      refine am_cVf hz cv_X12_458 [.int v5] [] (c_X12_adjointOf hG v5 g5 g6) (ln_64 hG) (lk_64 hG) rfl rfl rfl ⟨Nat.le_refl _, Nat.le_refl _⟩ (Nat.le_of_ble_eq_true rfl) dX12_sideThere_34 ?_
      refine am_iload_n hz1 dX12_sideThere_37 1 rfl rfl ?_
      refine am_icmp_ne (tgt := 51) hz1 dX12_sideThere_38 (by decide) (fun c7 => ?_) (fun c7 => ?_)
      · replace h := h.1 c7
        refine am_iinc (v := v5 + 1) (lv' := [(5, .int (v5 + 1)), (0, .ref ((zB z).size + 64)), (1, .int v1), (2, .int v2), (3, .long v3)]) hz1 dX12_sideThere_51 4 rfl rfl rfl rfl ?_
        refine am_goto (tgt := 10) hz1 dX12_sideThere_54 (by decide) ?_
        exact am_sub (lv' := [(0, .ref ((zB z).size + 64)), (1, .int v1), (2, .int v2), (3, .long v3), (5, .int (v5 + 1))]) [1, 2, 3, 4, 0] rfl h
      · replace h := h.2 c7
        refine am_lload_n hz1 dX12_sideThere_41 3 rfl rfl ?_
        refine am_aload_n hz1 dX12_sideThere_42 0 rfl rfl ?_
        refine am_getR hz1 fl_X12_72 (ln_64 hG) (lk_64 hG) (lr_64_32 hG) rfl dX12_sideThere_43 ?_
        refine am_iload hz1 dX12_sideThere_46 4 rfl ?_
        obtain ⟨g8, h⟩ := h
        refine am_lald hz1 (ln_84 hG) (lk_84 hG) (by rw [(ll_84 hG)]; exact g8) dX12_sideThere_48 ?_
        refine am_ladd hz1 dX12_sideThere_49 ?_
        refine am_lstore_n (lv' := [(3, .long (v3 + (L 84 v5.toNatClampNeg))), (0, .ref ((zB z).size + 64)), (1, .int v1), (2, .int v2), (5, .int v5)]) hz1 dX12_sideThere_50 rfl rfl rfl ?_
        refine am_iinc (v := v5 + 1) (lv' := [(5, .int (v5 + 1)), (3, .long (v3 + (L 84 v5.toNatClampNeg))), (0, .ref ((zB z).size + 64)), (1, .int v1), (2, .int v2)]) hz1 dX12_sideThere_51 4 rfl rfl rfl rfl ?_
        refine am_goto (tgt := 10) hz1 dX12_sideThere_54 (by decide) ?_
        exact am_sub (lv' := [(0, .ref ((zB z).size + 64)), (1, .int v1), (2, .int v2), (3, .long (v3 + (L 84 v5.toNatClampNeg))), (5, .int (v5 + 1))]) [2, 3, 4, 1, 0] rfl h
set_option maxRecDepth 100000 in
set_option maxHeartbeats 4000000 in
theorem c_X12_sideThere {l : Launch} {D : va_G} {B : Heap} {G : amG} {I : amI} {L : amL}  (hG : Lay G)  (v1 : Int32) (v2 : Int32) {n k q : Nat} {A A0 : Nat → Int32} (hM : MO L n A) (hmp : mpOk L) (hK : KO I 0 k A0) (hq : q < k) (hv : v2 = nI q) : Mx l D B yX12_sideThere cX12_sideThere 6 (some .long) 5 0 0 [.ref (B.size + 64), .int v1, .int v2] G I L (fun r G1 I1 L1 => r = some (.long (sumC (fun y => le A0 y q && decide (m_adj I L (nI y) = v1)) (nu k A0 q) k)) ∧ G1 = G ∧ I1 = I ∧ ∃ f : Nat → Int64, L1 = setL L 84 f) := by
  refine Mx.of (by decide) rfl rfl (fun z e1 e2 e3 hz => ?_)
  subst e1; subst e2; subst e3
  refine b_X12_sideThere_0 hz hG ?_
  subst hv
  have h16 := hK.2.1
  have ek := hK.2.2.2.1
  refine ⟨3, _, rfl, c_X12_laysThere hG _ hK hq rfl, fun ro G2 I2 L2 ⟨e1, e2, e3, f, e4, e5⟩ => ⟨e1, by rw [e2]; exact hG, ?_⟩⟩
  rw [e2, e3, e4]
  have hO : MO (setL L 84 f) n A := MO_72 hM (by decide)
  have hmap : ∀ x, m_map (setL L 84 f) x = m_map L x := fun x => by unfold m_map; rw [setL_n (by decide)]
  have hmp' : mpOk (setL L 84 f) := fun x hx => by rw [hmap]; exact hmp x (by rw [hM.N]; rw [hO.N] at hx; exact hx)
  have hadj : ∀ y, m_adj I (setL L 84 f) y = m_adj I L y := fun y => by
    rw [m_adj, m_adj, hO.great, hM.great, hO.N, hM.N, mkset_cong (fun x _ => by rw [hmap])]
  refine for_up (P := fun i => Wx z 0 0 10 [(0, .ref ((zB z).size + 64)), (1, .int v1), (2, .int (nI q)), (3, .long (sumC (fun y => le A0 y q && decide (m_adj I L (nI y) = v1)) (nu k A0 q) i)), (5, .int (nI i))] [] G I (setL L 84 f)) (n := k) ?_ ?_ (Nat.zero_le _)
  · exact b_X12_sideThere_10 hz hG ⟨fun _ => ⟨rfl, rfl, rfl, f, rfl⟩, fun h => absurd (tk_le ek h16) h⟩
  · intro i hi ih
    refine b_X12_sideThere_10 hz hG ⟨fun h => absurd h (tk_ge ek h16 hi), fun _ => ⟨in_nI (by omega) (by decide), fun g => ?_, fun g => ⟨⟨n, A, hO⟩, hmp', fun g2 => ?_, fun g2 => ⟨in16 h16 hi, ?_⟩⟩⟩⟩
    · rw [hK.am hi (by omega)] at g
      rw [sumC, if_neg (by rw [g]; simp)] at ih
      rw [nI_1]
      exact ih
    · rw [hadj] at g2
      rw [sumC, if_neg (by rw [decide_eq_false g2]; simp)] at ih
      rw [nI_1]
      exact ih
    · rw [hK.am hi (by omega)] at g
      rw [hadj] at g2
      rw [sumC, if_pos (by rw [g, decide_eq_true g2]; rfl)] at ih
      rw [nI_1, setL_s, cl_nI (n := i) (by omega), e5 i hi g]
      exact ih
