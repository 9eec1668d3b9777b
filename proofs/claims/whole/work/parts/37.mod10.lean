/-! THE REFERENCE: down-sets, linear extensions, sets apart -/
def m_isD (I : amI) (L : amL) (s : Int32) : Bool := scan (fun a => m_has s (nI a) && decide (¬ (I 79 a &&& (s ^^^ (-1))) = 0)) (fun _ => false) true (mN L) 0
def m_isA (I : amI) (L : amL) (s : Int32) : Bool := scan (fun a => m_has s (nI a) && decide (¬ (s &&& I 79 a) = (1 : Int32) <<< (nI a &&& 31))) (fun _ => false) true (mN L) 0
set_option maxRecDepth 100000 in
set_option maxHeartbeats 4000000 in
theorem b_X12_isDownSet_0 {z : amZ} {post : amP} {G : amG} {I : amI} {L : amL} (hz : Go z cX12_isDownSet RX12 3 (some .boolean) 1 0 0 post) (hG : Lay G) {v1 : Int32} (h : Wx z 0 0 2 [(0, .ref ((zB z).size + 64)), (1, .int v1), (2, .int 0)] [] G I L) : Wx z 0 0 0 [(0, .ref ((zB z).size + 64)), (1, .int v1)] [] G I L := by
  have hz1 := hz.1
  refine am_iconst (v := 0) hz1 dX12_isDownSet_0 (by decide) ?_
  refine am_istore_n (lv' := [(2, .int 0), (0, .ref ((zB z).size + 64)), (1, .int v1)]) hz1 dX12_isDownSet_1 rfl rfl rfl ?_
  exact am_sub (lv' := [(0, .ref ((zB z).size + 64)), (1, .int v1), (2, .int 0)]) [1, 2, 0] rfl h
set_option maxRecDepth 100000 in
set_option maxHeartbeats 4000000 in
theorem b_X12_isDownSet_2 {z : amZ} {post : amP} {G : amG} {I : amI} {L : amL} (hz : Go z cX12_isDownSet RX12 3 (some .boolean) 1 0 0 post) (hG : Lay G) {v1 : Int32} {v2 : Int32} (h : (((m_many L) ≤ v2) → post (some (.int 1)) G I L) ∧ ((¬ (m_many L) ≤ v2) → ((m_has v1 v2 = false) → Wx z 0 0 2 [(0, .ref ((zB z).size + 64)), (1, .int v1), (2, .int (v2 + 1))] [] G I L) ∧ ((m_has v1 v2 = true) → vp_in v2 16 ∧ ((((I 79 v2.toNatClampNeg) &&& (v1 ^^^ (-1 : Int32))) = 0) → Wx z 0 0 2 [(0, .ref ((zB z).size + 64)), (1, .int v1), (2, .int (v2 + 1))] [] G I L) ∧ ((¬ ((I 79 v2.toNatClampNeg) &&& (v1 ^^^ (-1 : Int32))) = 0) → post (some (.int 0)) G I L)))) : Wx z 0 0 2 [(0, .ref ((zB z).size + 64)), (1, .int v1), (2, .int v2)] [] G I L := by
  have hz1 := hz.1
  refine am_iload_n hz1 dX12_isDownSet_2 2 rfl rfl ?_
  refine am_aload_n hz1 dX12_isDownSet_3 0 rfl rfl ?_
  refine am_cVf hz cv_X12_78 [] [.int v2] (c_X12_many hG  ) (ln_64 hG) (lk_64 hG) rfl rfl rfl ⟨Nat.le_refl _, Nat.le_refl _⟩ (Nat.le_of_ble_eq_true rfl) dX12_isDownSet_4 ?_
  refine am_icmp_ge (tgt := 39) hz1 dX12_isDownSet_7 (by decide) (fun c1 => ?_) (fun c1 => ?_)
  · replace h := h.1 c1
    refine am_iconst (v := 1) hz1 dX12_isDownSet_39 (by decide) ?_
    exact am_zreturn hz (by decide) dX12_isDownSet_40 h
  · replace h := h.2 c1
    refine am_iload_n hz1 dX12_isDownSet_10 1 rfl rfl ?_
    refine am_iload_n hz1 dX12_isDownSet_11 2 rfl rfl ?_
    refine am_cSf hz ct_X12_90 [.int v1, .int v2] [] (c_X12_has hG v1 v2 ) rfl rfl rfl ⟨Nat.le_refl _, Nat.le_refl _⟩ (Nat.le_of_ble_eq_true rfl) dX12_isDownSet_12 ?_
    refine am_ifb_eq (tgt := 33) hz1 dX12_isDownSet_15 (by decide) (fun c2 => ?_) (fun c2 => ?_)
    · replace h := h.1 c2
      refine am_iinc (v := v2 + 1) (lv' := [(2, .int (v2 + 1)), (0, .ref ((zB z).size + 64)), (1, .int v1)]) hz1 dX12_isDownSet_33 2 rfl rfl rfl rfl ?_
      refine am_goto (tgt := 2) hz1 dX12_isDownSet_36 (by decide) ?_
      exact am_sub (lv' := [(0, .ref ((zB z).size + 64)), (1, .int v1), (2, .int (v2 + 1))]) [1, 2, 0] rfl h
    · replace h := h.2 c2
      refine am_aload_n hz1 dX12_isDownSet_18 0 rfl rfl ?_
      refine am_getR hz1 fl_X12_57 (ln_64 hG) (lk_64 hG) (lr_64_23 hG) rfl dX12_isDownSet_19 ?_
      refine am_iload_n hz1 dX12_isDownSet_22 2 rfl rfl ?_
      obtain ⟨g3, h⟩ := h
      refine am_iald hz1 (ln_79 hG) (lk_79 hG) (by rw [(ll_79 hG)]; exact g3) dX12_isDownSet_23 ?_
      refine am_iload_n hz1 dX12_isDownSet_24 1 rfl rfl ?_
      refine am_iconst (v := (-1)) hz1 dX12_isDownSet_25 (by decide) ?_
      refine am_ixor hz1 dX12_isDownSet_26 ?_
      refine am_iand hz1 dX12_isDownSet_27 ?_
      refine am_if_eq (tgt := 33) hz1 dX12_isDownSet_28 (by decide) (fun c4 => ?_) (fun c4 => ?_)
      · replace h := h.1 c4
        refine am_iinc (v := v2 + 1) (lv' := [(2, .int (v2 + 1)), (0, .ref ((zB z).size + 64)), (1, .int v1)]) hz1 dX12_isDownSet_33 2 rfl rfl rfl rfl ?_
        refine am_goto (tgt := 2) hz1 dX12_isDownSet_36 (by decide) ?_
        exact am_sub (lv' := [(0, .ref ((zB z).size + 64)), (1, .int v1), (2, .int (v2 + 1))]) [1, 2, 0] rfl h
      · replace h := h.2 c4
        refine am_iconst (v := 0) hz1 dX12_isDownSet_31 (by decide) ?_
        exact am_zreturn hz (by decide) dX12_isDownSet_32 h
set_option maxRecDepth 100000 in
set_option maxHeartbeats 4000000 in
theorem c_X12_isDownSet {l : Launch} {D : va_G} {B : Heap} {G : amG} {I : amI} {L : amL}  (hG : Lay G)  (v1 : Int32) (hM : mOk L) : Fx l D B yX12_isDownSet cX12_isDownSet 3 (some .boolean) 1 [.ref (B.size + 64), .int v1] G I L (some (.int (bI (m_isD I L v1)))) I L := by
  refine Mx.of (by decide) rfl rfl (fun z e1 e2 e3 hz => ?_)
  subst e1; subst e2; subst e3
  refine b_X12_isDownSet_0 hz hG ?_
  obtain ⟨n, A, hM⟩ := hM
  have h16 := hM.2.1
  refine for_up (P := fun i => scan (fun a => m_has v1 (nI a) && decide (¬ (I 79 a &&& (v1 ^^^ (-1))) = 0)) (fun _ => false) true (n - i) i = m_isD I L v1 → Wx z 0 0 2 [(0, .ref ((zB z).size + 64)), (1, .int v1), (2, .int (nI i))] [] G I L) (n := n) ?_ ?_ (Nat.zero_le _) (by rw [Nat.sub_zero, m_isD, hM.N])
  · intro e
    rw [scan_0] at e
    exact b_X12_isDownSet_2 hz hG ⟨fun _ => ⟨by rw [← e]; rfl, rfl, rfl, rfl⟩, fun h => absurd (mm_le hM) h⟩
  · intro i hi ih e
    rw [scan_s hi] at e
    refine b_X12_isDownSet_2 hz hG ⟨fun h => absurd h (mm_ge hM hi), fun _ => ⟨fun g => ?_, fun g => ⟨in16 h16 hi, ?_⟩⟩⟩
    · rw [if_neg (by rw [g]; simp)] at e
      rw [nI_1]
      exact ih e
    · rw [cl_nI (by omega), nI_1]
      refine ⟨fun q => ?_, fun q => ⟨?_, rfl, rfl, rfl⟩⟩
      · rw [if_neg (by rw [decide_eq_false (not_not_intro q)]; simp)] at e
        exact ih e
      · rw [if_pos (by rw [g, decide_eq_true q]; rfl)] at e
        rw [← e]; rfl
set_option maxRecDepth 100000 in
set_option maxHeartbeats 4000000 in
theorem b_X12_isApart_0 {z : amZ} {post : amP} {G : amG} {I : amI} {L : amL} (hz : Go z cX12_isApart RX12 3 (some .boolean) 1 0 0 post) (hG : Lay G) {v1 : Int32} (h : Wx z 0 0 2 [(0, .ref ((zB z).size + 64)), (1, .int v1), (2, .int 0)] [] G I L) : Wx z 0 0 0 [(0, .ref ((zB z).size + 64)), (1, .int v1)] [] G I L := by
  have hz1 := hz.1
  refine am_iconst (v := 0) hz1 dX12_isApart_0 (by decide) ?_
  refine am_istore_n (lv' := [(2, .int 0), (0, .ref ((zB z).size + 64)), (1, .int v1)]) hz1 dX12_isApart_1 rfl rfl rfl ?_
  exact am_sub (lv' := [(0, .ref ((zB z).size + 64)), (1, .int v1), (2, .int 0)]) [1, 2, 0] rfl h
set_option maxRecDepth 100000 in
set_option maxHeartbeats 4000000 in
theorem b_X12_isApart_2 {z : amZ} {post : amP} {G : amG} {I : amI} {L : amL} (hz : Go z cX12_isApart RX12 3 (some .boolean) 1 0 0 post) (hG : Lay G) {v1 : Int32} {v2 : Int32} (h : (((m_many L) ≤ v2) → post (some (.int 1)) G I L) ∧ ((¬ (m_many L) ≤ v2) → ((m_has v1 v2 = false) → Wx z 0 0 2 [(0, .ref ((zB z).size + 64)), (1, .int v1), (2, .int (v2 + 1))] [] G I L) ∧ ((m_has v1 v2 = true) → vp_in v2 16 ∧ (((v1 &&& (I 79 v2.toNatClampNeg)) = ((1 : Int32) <<< (v2 &&& 31))) → Wx z 0 0 2 [(0, .ref ((zB z).size + 64)), (1, .int v1), (2, .int (v2 + 1))] [] G I L) ∧ ((¬ (v1 &&& (I 79 v2.toNatClampNeg)) = ((1 : Int32) <<< (v2 &&& 31))) → post (some (.int 0)) G I L)))) : Wx z 0 0 2 [(0, .ref ((zB z).size + 64)), (1, .int v1), (2, .int v2)] [] G I L := by
  have hz1 := hz.1
  refine am_iload_n hz1 dX12_isApart_2 2 rfl rfl ?_
  refine am_aload_n hz1 dX12_isApart_3 0 rfl rfl ?_
  refine am_cVf hz cv_X12_78 [] [.int v2] (c_X12_many hG  ) (ln_64 hG) (lk_64 hG) rfl rfl rfl ⟨Nat.le_refl _, Nat.le_refl _⟩ (Nat.le_of_ble_eq_true rfl) dX12_isApart_4 ?_
  refine am_icmp_ge (tgt := 40) hz1 dX12_isApart_7 (by decide) (fun c1 => ?_) (fun c1 => ?_)
  · replace h := h.1 c1
    refine am_iconst (v := 1) hz1 dX12_isApart_40 (by decide) ?_
    exact am_zreturn hz (by decide) dX12_isApart_41 h
  · replace h := h.2 c1
    refine am_iload_n hz1 dX12_isApart_10 1 rfl rfl ?_
    refine am_iload_n hz1 dX12_isApart_11 2 rfl rfl ?_
    refine am_cSf hz ct_X12_90 [.int v1, .int v2] [] (c_X12_has hG v1 v2 ) rfl rfl rfl ⟨Nat.le_refl _, Nat.le_refl _⟩ (Nat.le_of_ble_eq_true rfl) dX12_isApart_12 ?_
    refine am_ifb_eq (tgt := 34) hz1 dX12_isApart_15 (by decide) (fun c2 => ?_) (fun c2 => ?_)
    · replace h := h.1 c2
      refine am_iinc (v := v2 + 1) (lv' := [(2, .int (v2 + 1)), (0, .ref ((zB z).size + 64)), (1, .int v1)]) hz1 dX12_isApart_34 2 rfl rfl rfl rfl ?_
      refine am_goto (tgt := 2) hz1 dX12_isApart_37 (by decide) ?_
      exact am_sub (lv' := [(0, .ref ((zB z).size + 64)), (1, .int v1), (2, .int (v2 + 1))]) [1, 2, 0] rfl h
    · replace h := h.2 c2
      refine am_iload_n hz1 dX12_isApart_18 1 rfl rfl ?_
      refine am_aload_n hz1 dX12_isApart_19 0 rfl rfl ?_
      refine am_getR hz1 fl_X12_57 (ln_64 hG) (lk_64 hG) (lr_64_23 hG) rfl dX12_isApart_20 ?_
      refine am_iload_n hz1 dX12_isApart_23 2 rfl rfl ?_
      obtain ⟨g3, h⟩ := h
      refine am_iald hz1 (ln_79 hG) (lk_79 hG) (by rw [(ll_79 hG)]; exact g3) dX12_isApart_24 ?_
      refine am_iand hz1 dX12_isApart_25 ?_
      refine am_iconst (v := 1) hz1 dX12_isApart_26 (by decide) ?_
      refine am_iload_n hz1 dX12_isApart_27 2 rfl rfl ?_
      refine am_ishl hz1 dX12_isApart_28 ?_
      refine am_icmp_eq (tgt := 34) hz1 dX12_isApart_29 (by decide) (fun c4 => ?_) (fun c4 => ?_)
      · replace h := h.1 c4
        refine am_iinc (v := v2 + 1) (lv' := [(2, .int (v2 + 1)), (0, .ref ((zB z).size + 64)), (1, .int v1)]) hz1 dX12_isApart_34 2 rfl rfl rfl rfl ?_
        refine am_goto (tgt := 2) hz1 dX12_isApart_37 (by decide) ?_
        exact am_sub (lv' := [(0, .ref ((zB z).size + 64)), (1, .int v1), (2, .int (v2 + 1))]) [1, 2, 0] rfl h
      · replace h := h.2 c4
        refine am_iconst (v := 0) hz1 dX12_isApart_32 (by decide) ?_
        exact am_zreturn hz (by decide) dX12_isApart_33 h
set_option maxRecDepth 100000 in
set_option maxHeartbeats 4000000 in
theorem c_X12_isApart {l : Launch} {D : va_G} {B : Heap} {G : amG} {I : amI} {L : amL}  (hG : Lay G)  (v1 : Int32) (hM : mOk L) : Fx l D B yX12_isApart cX12_isApart 3 (some .boolean) 1 [.ref (B.size + 64), .int v1] G I L (some (.int (bI (m_isA I L v1)))) I L := by
  refine Mx.of (by decide) rfl rfl (fun z e1 e2 e3 hz => ?_)
  subst e1; subst e2; subst e3
  refine b_X12_isApart_0 hz hG ?_
  obtain ⟨n, A, hM⟩ := hM
  have h16 := hM.2.1
  refine for_up (P := fun i => scan (fun a => m_has v1 (nI a) && decide (¬ (v1 &&& I 79 a) = (1 : Int32) <<< (nI a &&& 31))) (fun _ => false) true (n - i) i = m_isA I L v1 → Wx z 0 0 2 [(0, .ref ((zB z).size + 64)), (1, .int v1), (2, .int (nI i))] [] G I L) (n := n) ?_ ?_ (Nat.zero_le _) (by rw [Nat.sub_zero, m_isA, hM.N])
  · intro e
    rw [scan_0] at e
    exact b_X12_isApart_2 hz hG ⟨fun _ => ⟨by rw [← e]; rfl, rfl, rfl, rfl⟩, fun h => absurd (mm_le hM) h⟩
  · intro i hi ih e
    rw [scan_s hi] at e
    refine b_X12_isApart_2 hz hG ⟨fun h => absurd h (mm_ge hM hi), fun _ => ⟨fun g => ?_, fun g => ⟨in16 h16 hi, ?_⟩⟩⟩
    · rw [if_neg (by rw [g]; simp)] at e
      rw [nI_1]
      exact ih e
    · rw [cl_nI (by omega), nI_1]
      refine ⟨fun q => ?_, fun q => ⟨?_, rfl, rfl, rfl⟩⟩
      · rw [if_neg (by rw [decide_eq_false (not_not_intro q)]; simp)] at e
        exact ih e
      · rw [if_pos (by rw [g, decide_eq_true q]; rfl)] at e
        rw [← e]; rfl
theorem p2 : ∀ n, n ≤ 16 → (1 : Int32) <<< (nI n &&& 31) = nI (2 ^ n) := by decide +kernel
theorem p2_le {n : Nat} (h : n ≤ 16) : 2 ^ n ≤ 65536 := Nat.pow_le_pow_right (n := 2) (by decide) h
/-- a set, with each of its elements all that is below -/
def dsM (n : Nat) (A : Nat → Int32) (t : Nat) : Bool := scan (fun a => t.testBit a && orN (fun x => bt (A x) a && !t.testBit x) n) (fun _ => false) true n 0
theorem dsM_t {n : Nat} {A : Nat → Int32} {t : Nat} : dsM n A t = true ↔ ∀ a x, a < n → x < n → t.testBit a = true → bt (A x) a = true → t.testBit x = true := by
  rw [dsM, scan_tf]
  constructor
  · intro h a x ha hx h1 h2
    have := h a ha
    rw [h1, Bool.true_and, Bool.eq_false_iff] at this
    cases e : t.testBit x
    · exact absurd (orN_t.mpr ⟨x, hx, by rw [h2, e]; rfl⟩) this
    · rfl
  · intro h a ha
    rw [Bool.eq_false_iff]
    intro q
    rw [Bool.and_eq_true, orN_t] at q
    obtain ⟨q1, x, hx, q2⟩ := q
    rw [Bool.and_eq_true] at q2
    rw [h a x ha hx q1 q2.1] at q2
    exact absurd q2.2 (by decide)
theorem tb16 {t i : Nat} (ht : t < 65536) (h : t.testBit i = true) : i < 16 := Nat.not_le.mp fun q => by
  rw [Nat.testBit_lt_two_pow (Nat.lt_of_lt_of_le ht (Nat.pow_le_pow_right (n := 2) (by decide) q))] at h
  cases h
theorem tbn {t i n : Nat} (ht : t < 2 ^ n) (h : t.testBit i = true) : i < n := Nat.not_le.mp fun q => by
  rw [Nat.testBit_lt_two_pow (Nat.lt_of_lt_of_le ht (Nat.pow_le_pow_right (n := 2) (by decide) q))] at h
  cases h
theorem nI_16 {t : Nat} (ht : t < 65536) : s16 (nI t) := by
  intro i h1 h2
  rw [bt_nI t i h2, Bool.eq_false_iff]
  intro q
  have := tb16 ht q
  omega
theorem isD_M {n t : Nat} {A : Nat → Int32} {I : amI} {L : amL} (hM : MO L n A) (hI : ∀ a, a < n → I 79 a = dnS n A a) (ht : t < 2 ^ n) : m_isD I L (nI t) = dsM n A t := by
  have h16 := hM.2.1
  rw [m_isD, hM.N, dsM]
  refine scan_cong _ _ (fun a _ ha => ⟨?_, rfl⟩)
  rw [has_b (by omega), bt_nI t a (by omega), hI a (by omega)]
  cases e : t.testBit a
  · rfl
  · rw [Bool.true_and, Bool.true_and]
    have hiff : (¬ (dnS n A a &&& (nI t ^^^ (-1))) = 0) ↔ orN (fun x => bt (A x) a && !t.testBit x) n = true := by
      rw [orN_t, b_eq0]
      constructor
      · intro h
        apply Classical.byContradiction
        intro h2
        apply h
        intro i hi
        rw [b_and, b_not _ hi, dn_b (by omega) (by omega) hi, bt_nI t i hi, Bool.eq_false_iff]
        intro q
        rw [Bool.and_eq_true, Bool.and_eq_true, decide_eq_true_eq, Bool.not_eq_true'] at q
        obtain ⟨⟨q1, q2⟩, q3⟩ := q
        rw [le_b hi (by omega), Bool.or_eq_true, decide_eq_true_eq] at q2
        rcases q2 with q2 | q2
        · exact h2 ⟨i, q1, by rw [q2, q3]; rfl⟩
        · subst q2; rw [e] at q3; cases q3
      · rintro ⟨x, hx, q⟩ h
        rw [Bool.and_eq_true, Bool.not_eq_true'] at q
        have := h x (by omega)
        rw [b_and, b_not _ (by omega), dn_b (by omega) (by omega) (by omega), bt_nI t x (by omega), decide_eq_true hx, q.2, lt_le (by omega) (by omega) q.1] at this
        cases this
    by_cases hh : (dnS n A a &&& (nI t ^^^ (-1))) = 0
    · rw [decide_eq_false (not_not_intro hh)]
      symm
      rw [Bool.eq_false_iff]
      exact fun q => hiff.mpr q hh
    · rw [decide_eq_true hh]
      exact (hiff.mp hh).symm
def dsC (n : Nat) (A : Nat → Int32) (k : Int32) : Int64 := sumN (fun t => if ((decide (k = -1) || decide (nI (ct (fun i => t.testBit i) n) = k)) && dsM n A t) = true then 1 else 0) (2 ^ n)
theorem sz_n {n t : Nat} (h16 : n ≤ 16) (ht : t < 2 ^ n) : m_size (nI t) = nI (ct (fun i => t.testBit i) n) := by
  rw [m_size, ct_16 (n := n) h16 (fun i hi q => by rw [bt_nI t i hi] at q; exact tbn ht q)]
  rw [ct_cong (fun i hi => bt_nI t i (by omega))]
theorem dn79 {n : Nat} {A : Nat → Int32} {I : amI} {L : amL} (hM : MO L n A) : ∀ a, a < n → (setI I 79 (wr (I 79) 0 (mN L) (fun a => m_dn L (nI a)))) 79 a = dnS n A a := by
  intro a ha
  rw [setI_s, wr_in (by rw [hM.N]; omega), Nat.sub_zero, hM.dn ha]
set_option maxRecDepth 100000 in
set_option maxHeartbeats 4000000 in
theorem b_X12_downSets_0 {z : amZ} {post : amP} {G : amG} {I : amI} {L : amL} (hz : Go z cX12_downSets RX12 5 (some .long) 4 0 0 post) (hG : Lay G) {v1 : Int32} (h : (mOk L) ∧ Wx z 0 0 9 [(0, .ref ((zB z).size + 64)), (1, .int v1), (2, .long (0 : Int64)), (4, .int 0)] [] G (setI I 79 (wr (I 79) 0 (mN L) (fun a => m_dn L (nI a)))) L) : Wx z 0 0 0 [(0, .ref ((zB z).size + 64)), (1, .int v1)] [] G I L := by
  have hz1 := hz.1
  refine am_aload_n hz1 dX12_downSets_0 0 rfl rfl ?_
  obtain ⟨g1, h⟩ := h
  refine am_cVf hz cv_X12_402 [] [] (c_X12_laysDown hG  g1) (ln_64 hG) (lk_64 hG) rfl rfl rfl ⟨Nat.le_refl _, Nat.le_refl _⟩ (Nat.le_of_ble_eq_true rfl) dX12_downSets_1 ?_
  refine am_lconst (v := 0) hz1 dX12_downSets_4 (by decide) ?_
  refine am_lstore_n (lv' := [(2, .long (0 : Int64)), (0, .ref ((zB z).size + 64)), (1, .int v1)]) hz1 dX12_downSets_5 rfl rfl rfl ?_
  refine am_iconst (v := 0) hz1 dX12_downSets_6 (by decide) ?_
  refine am_istore (lv' := [(4, .int 0), (2, .long (0 : Int64)), (0, .ref ((zB z).size + 64)), (1, .int v1)]) hz1 dX12_downSets_7 rfl rfl ?_
  exact am_sub (lv' := [(0, .ref ((zB z).size + 64)), (1, .int v1), (2, .long (0 : Int64)), (4, .int 0)]) [2, 3, 1, 0] rfl h
set_option maxRecDepth 100000 in
set_option maxHeartbeats 4000000 in
theorem b_X12_downSets_9 {z : amZ} {post : amP} {G : amG} {I : amI} {L : amL} (hz : Go z cX12_downSets RX12 5 (some .long) 4 0 0 post) (hG : Lay G) {v1 : Int32} {v2 : Int64} {v4 : Int32} (h : ((((1 : Int32) <<< ((m_many L) &&& 31)) ≤ v4) → post (some (.long v2)) G I L) ∧ ((¬ ((1 : Int32) <<< ((m_many L) &&& 31)) ≤ v4) → ((v1 = (-1 : Int32)) → (mOk L) ∧ ((m_isD I L v4 = false) → Wx z 0 0 9 [(0, .ref ((zB z).size + 64)), (1, .int v1), (2, .long v2), (4, .int (v4 + 1))] [] G I L) ∧ ((m_isD I L v4 = true) → Wx z 0 0 9 [(0, .ref ((zB z).size + 64)), (1, .int v1), (2, .long (v2 + (1 : Int64))), (4, .int (v4 + 1))] [] G I L)) ∧ ((¬ v1 = (-1 : Int32)) → (s16 v4) ∧ ((¬ (m_size v4) = v1) → Wx z 0 0 9 [(0, .ref ((zB z).size + 64)), (1, .int v1), (2, .long v2), (4, .int (v4 + 1))] [] G I L) ∧ (((m_size v4) = v1) → (mOk L) ∧ ((m_isD I L v4 = false) → Wx z 0 0 9 [(0, .ref ((zB z).size + 64)), (1, .int v1), (2, .long v2), (4, .int (v4 + 1))] [] G I L) ∧ ((m_isD I L v4 = true) → Wx z 0 0 9 [(0, .ref ((zB z).size + 64)), (1, .int v1), (2, .long (v2 + (1 : Int64))), (4, .int (v4 + 1))] [] G I L))))) : Wx z 0 0 9 [(0, .ref ((zB z).size + 64)), (1, .int v1), (2, .long v2), (4, .int v4)] [] G I L := by
  have hz1 := hz.1
  refine am_iload hz1 dX12_downSets_9 3 rfl ?_
  refine am_iconst (v := 1) hz1 dX12_downSets_11 (by decide) ?_
  refine am_aload_n hz1 dX12_downSets_12 0 rfl rfl ?_
  refine am_cVf hz cv_X12_78 [] [.int 1, .int v4] (c_X12_many hG  ) (ln_64 hG) (lk_64 hG) rfl rfl rfl ⟨Nat.le_refl _, Nat.le_refl _⟩ (Nat.le_of_ble_eq_true rfl) dX12_downSets_13 ?_
  refine am_ishl hz1 dX12_downSets_16 ?_
  refine am_icmp_ge (tgt := 53) hz1 dX12_downSets_17 (by decide) (fun c1 => ?_) (fun c1 => ?_)
  · replace h := h.1 c1
    refine am_lload_n hz1 dX12_downSets_53 2 rfl rfl ?_
    exact am_lreturn hz dX12_downSets_54 h
  · replace h := h.2 c1
    refine am_iload_n hz1 dX12_downSets_20 1 rfl rfl ?_
    refine am_iconst (v := (-1)) hz1 dX12_downSets_21 (by decide) ?_
    refine am_icmp_eq (tgt := 34) hz1 dX12_downSets_22 (by decide) (fun c2 => ?_) (fun c2 => ?_)
    · replace h := h.1 c2
      refine am_aload_n hz1 dX12_downSets_34 0 rfl rfl ?_
      refine am_iload hz1 dX12_downSets_35 3 rfl ?_
      obtain ⟨g3, h⟩ := h
      refine am_cVf hz cv_X12_405 [.int v4] [] (c_X12_isDownSet hG v4 g3) (ln_64 hG) (lk_64 hG) rfl rfl rfl ⟨Nat.le_refl _, Nat.le_refl _⟩ (Nat.le_of_ble_eq_true rfl) dX12_downSets_37 ?_
      refine am_ifb_eq (tgt := 47) hz1 dX12_downSets_40 (by decide) (fun c4 => ?_) (fun c4 => ?_)
      · replace h := h.1 c4
        refine am_iinc (v := v4 + 1) (lv' := [(4, .int (v4 + 1)), (0, .ref ((zB z).size + 64)), (1, .int v1), (2, .long v2)]) hz1 dX12_downSets_47 3 rfl rfl rfl rfl ?_
        refine am_goto (tgt := 9) hz1 dX12_downSets_50 (by decide) ?_
        exact am_sub (lv' := [(0, .ref ((zB z).size + 64)), (1, .int v1), (2, .long v2), (4, .int (v4 + 1))]) [1, 2, 3, 0] rfl h
      · replace h := h.2 c4
        refine am_lload_n hz1 dX12_downSets_43 2 rfl rfl ?_
        refine am_lconst (v := 1) hz1 dX12_downSets_44 (by decide) ?_
        refine am_ladd hz1 dX12_downSets_45 ?_
        refine am_lstore_n (lv' := [(2, .long (v2 + (1 : Int64))), (0, .ref ((zB z).size + 64)), (1, .int v1), (4, .int v4)]) hz1 dX12_downSets_46 rfl rfl rfl ?_
        refine am_iinc (v := v4 + 1) (lv' := [(4, .int (v4 + 1)), (2, .long (v2 + (1 : Int64))), (0, .ref ((zB z).size + 64)), (1, .int v1)]) hz1 dX12_downSets_47 3 rfl rfl rfl rfl ?_
        refine am_goto (tgt := 9) hz1 dX12_downSets_50 (by decide) ?_
        exact am_sub (lv' := [(0, .ref ((zB z).size + 64)), (1, .int v1), (2, .long (v2 + (1 : Int64))), (4, .int (v4 + 1))]) [2, 3, 1, 0] rfl h
    · replace h := h.2 c2
      refine am_iload hz1 dX12_downSets_25 3 rfl ?_
      obtain ⟨g5, h⟩ := h
      refine am_cSf hz ct_X12_111 [.int v4] [] (c_X12_size hG v4 g5) rfl rfl rfl ⟨Nat.le_refl _, Nat.le_refl _⟩ (Nat.le_of_ble_eq_true rfl) dX12_downSets_27 ?_
      refine am_iload_n hz1 dX12_downSets_30 1 rfl rfl ?_
      refine am_icmp_ne (tgt := 47) hz1 dX12_downSets_31 (by decide) (fun c6 => ?_) (fun c6 => ?_)
      · replace h := h.1 c6
        refine am_iinc (v := v4 + 1) (lv' := [(4, .int (v4 + 1)), (0, .ref ((zB z).size + 64)), (1, .int v1), (2, .long v2)]) hz1 dX12_downSets_47 3 rfl rfl rfl rfl ?_
        refine am_goto (tgt := 9) hz1 dX12_downSets_50 (by decide) ?_
        exact am_sub (lv' := [(0, .ref ((zB z).size + 64)), (1, .int v1), (2, .long v2), (4, .int (v4 + 1))]) [1, 2, 3, 0] rfl h
      · replace h := h.2 c6
        refine am_aload_n hz1 dX12_downSets_34 0 rfl rfl ?_
        refine am_iload hz1 dX12_downSets_35 3 rfl ?_
        obtain ⟨g7, h⟩ := h
        refine am_cVf hz cv_X12_405 [.int v4] [] (c_X12_isDownSet hG v4 g7) (ln_64 hG) (lk_64 hG) rfl rfl rfl ⟨Nat.le_refl _, Nat.le_refl _⟩ (Nat.le_of_ble_eq_true rfl) dX12_downSets_37 ?_
        refine am_ifb_eq (tgt := 47) hz1 dX12_downSets_40 (by decide) (fun c8 => ?_) (fun c8 => ?_)
        · replace h := h.1 c8
          refine am_iinc (v := v4 + 1) (lv' := [(4, .int (v4 + 1)), (0, .ref ((zB z).size + 64)), (1, .int v1), (2, .long v2)]) hz1 dX12_downSets_47 3 rfl rfl rfl rfl ?_
          refine am_goto (tgt := 9) hz1 dX12_downSets_50 (by decide) ?_
          exact am_sub (lv' := [(0, .ref ((zB z).size + 64)), (1, .int v1), (2, .long v2), (4, .int (v4 + 1))]) [1, 2, 3, 0] rfl h
        · replace h := h.2 c8
          refine am_lload_n hz1 dX12_downSets_43 2 rfl rfl ?_
          refine am_lconst (v := 1) hz1 dX12_downSets_44 (by decide) ?_
          refine am_ladd hz1 dX12_downSets_45 ?_
          refine am_lstore_n (lv' := [(2, .long (v2 + (1 : Int64))), (0, .ref ((zB z).size + 64)), (1, .int v1), (4, .int v4)]) hz1 dX12_downSets_46 rfl rfl rfl ?_
          refine am_iinc (v := v4 + 1) (lv' := [(4, .int (v4 + 1)), (2, .long (v2 + (1 : Int64))), (0, .ref ((zB z).size + 64)), (1, .int v1)]) hz1 dX12_downSets_47 3 rfl rfl rfl rfl ?_
          refine am_goto (tgt := 9) hz1 dX12_downSets_50 (by decide) ?_
          exact am_sub (lv' := [(0, .ref ((zB z).size + 64)), (1, .int v1), (2, .long (v2 + (1 : Int64))), (4, .int (v4 + 1))]) [2, 3, 1, 0] rfl h
set_option maxRecDepth 100000 in
set_option maxHeartbeats 4000000 in
theorem c_X12_downSets {l : Launch} {D : va_G} {B : Heap} {G : amG} {I : amI} {L : amL}  (hG : Lay G)  (v1 : Int32) {n : Nat} {A : Nat → Int32} (hM : MO L n A) : Mx l D B yX12_downSets cX12_downSets 5 (some .long) 4 0 0 [.ref (B.size + 64), .int v1] G I L (fun r G1 I1 L1 => r = some (.long (dsC n A v1)) ∧ G1 = G ∧ L1 = L ∧ ∃ f : Nat → Int32, I1 = setI I 79 f) := by
  refine Mx.of (by decide) rfl rfl (fun z e1 e2 e3 hz => ?_)
  subst e1; subst e2; subst e3
  refine b_X12_downSets_0 hz hG ?_
  have h16 := hM.2.1
  have hp := p2_le h16
  refine ⟨⟨n, A, hM⟩, ?_⟩
  generalize hI0 : setI I 79 (wr (I 79) 0 (mN L) (fun a => m_dn L (nI a))) = I0
  have hd : ∀ a, a < n → I0 79 a = dnS n A a := by rw [← hI0]; exact dn79 hM
  have hmm : (1 : Int32) <<< (m_many L &&& 31) = nI (2 ^ n) := by rw [hM.many, p2 n h16]
  refine for_up (P := fun t => Wx z 0 0 9 [(0, .ref ((zB z).size + 64)), (1, .int v1), (2, .long (sumN (fun t => if ((decide (v1 = -1) || decide (nI (ct (fun i => t.testBit i) n) = v1)) && dsM n A t) = true then 1 else 0) t)), (4, .int (nI t))] [] G I0 L) (n := 2 ^ n) ?_ ?_ (Nat.zero_le _)
  · refine b_X12_downSets_9 hz hG ⟨fun _ => ⟨rfl, rfl, rfl, _, hI0.symm⟩, fun h => absurd ?_ h⟩
    rw [hmm]; exact nI_le (Nat.le_refl _) (by omega)
  · intro t ht ih
    refine b_X12_downSets_9 hz hG ⟨fun h => absurd h (by rw [hmm]; exact nI_ge ht (by omega)), fun _ => ?_⟩
    rw [isD_M hM hd ht, sz_n h16 ht, nI_1]
    rw [sumN] at ih
    refine ⟨fun h => ⟨⟨n, A, hM⟩, fun g => ?_, fun g => ?_⟩, fun h => ⟨nI_16 (by omega), fun h2 => ?_, fun h2 => ⟨⟨n, A, hM⟩, fun g => ?_, fun g => ?_⟩⟩⟩
    · rw [if_neg (by rw [g, Bool.and_false]; decide), Int64.add_zero] at ih
      exact ih
    · rw [if_pos (by rw [g, decide_eq_true h]; rfl)] at ih
      exact ih
    · rw [if_neg (by rw [decide_eq_false h, decide_eq_false h2]; simp), Int64.add_zero] at ih
      exact ih
    · rw [if_neg (by rw [g, Bool.and_false]; decide), Int64.add_zero] at ih
      exact ih
    · rw [if_pos (by rw [g, decide_eq_true h2, Bool.or_true]; rfl)] at ih
      exact ih
/-- linear extensions of the elements of a set, as many as k -/
def mxB (n : Nat) (A : Nat → Int32) (S : Nat → Bool) (a : Nat) : Bool := S a && !orN (fun b => S b && bt (A a) b) n
def eF (n : Nat) (A : Nat → Int32) : Nat → (Nat → Bool) → Int64
  | 0, _ => 1
  | k + 1, S => sumC (mxB n A S) (fun a => eF n A k (fun x => S x && !decide (x = a))) n
theorem eF_c {n : Nat} {A : Nat → Int32} : ∀ (k : Nat) {S T : Nat → Bool}, (∀ x, x < n → S x = T x) → eF n A k S = eF n A k T
  | 0, _, _, _ => rfl
  | k + 1, S, T, h => by
    rw [eF, eF]
    refine sumC_c (fun a ha => ⟨?_, fun _ => eF_c k (fun x hx => by rw [h x hx])⟩)
    rw [mxB, mxB, h a ha, orN_c (fun b hb => by rw [h b hb])]
theorem clr {t a : Nat} (ht : t < 65536) (ha : a < 16) : ∃ k, k < 65536 ∧ nI t &&& (((1 : Int32) <<< (nI a &&& 31)) ^^^ (-1)) = nI k ∧ (∀ i, k.testBit i = (t.testBit i && !decide (i = a))) ∧ (t.testBit a = true → k < t) := by
  obtain ⟨k, hk, e, hb⟩ := set16 (x := nI t &&& (((1 : Int32) <<< (nI a &&& 31)) ^^^ (-1))) (and_16 (nI_16 ht))
  have hbits : ∀ i, k.testBit i = (t.testBit i && !decide (i = a)) := by
    intro i
    by_cases hi : i < 32
    · rw [hb i hi, b_and, b_not _ hi, b_one a (by omega) hi, bt_nI t i hi]
    · have h1 : k.testBit i = false := by
        rw [Bool.eq_false_iff]; exact fun q => absurd (tb16 hk q) (by omega)
      have h2 : t.testBit i = false := by
        rw [Bool.eq_false_iff]; exact fun q => absurd (tb16 ht q) (by omega)
      rw [h1, h2]; rfl
  refine ⟨k, hk, e, hbits, fun h => ?_⟩
  have h1 : k &&& t = k := sub_iff.mpr (fun i hi => by rw [hbits i, Bool.and_eq_true] at hi; exact hi.1)
  have h2 : k ≤ t := by rw [← h1]; exact Nat.and_le_right
  have h3 : k ≠ t := fun q => by
    have := hbits a
    rw [q, h] at this
    simp at this
  omega
theorem ct_rm {f : Nat → Bool} {a : Nat} : ∀ {n : Nat}, a < n → f a = true → ct (fun x => f x && !decide (x = a)) n + 1 = ct f n
  | 0, h, _ => absurd h (Nat.not_lt_zero _)
  | n + 1, h, hf => by
    rw [ct, ct]
    by_cases e : n = a
    · subst e
      rw [hf, if_neg (by simp), if_pos rfl, ct_cong (g := f) (fun i hi => by simp; omega)]
    · rw [show (f n && !decide (n = a)) = f n by simp [e]]
      have := ct_rm (n := n) (f := f) (a := a) (by omega) hf
      omega
theorem ds_rm {n t k a : Nat} {A : Nat → Int32} (hP : PO n A) (h32 : n ≤ 32) (hd : dsM n A t = true) (ha : a < n) (hta : t.testBit a = true) (hk : ∀ i, k.testBit i = (t.testBit i && !decide (i = a))) : dsM n A k = mxB n A (fun i => t.testBit i) a := by
  rw [mxB, hta, Bool.true_and]
  cases e : orN (fun b => t.testBit b && bt (A a) b) n
  · rw [Bool.not_false, dsM_t]
    intro x y hx hy h1 h2
    rw [hk, Bool.and_eq_true, Bool.not_eq_true', decide_eq_false_iff_not] at h1 ⊢
    refine ⟨dsM_t.mp hd x y hx hy h1.1 h2, fun q => ?_⟩
    subst q
    rw [Bool.eq_false_iff] at e
    exact e (orN_t.mpr ⟨x, hx, by rw [h1.1, h2]; rfl⟩)
  · rw [Bool.not_true, Bool.eq_false_iff]
    intro q
    rw [orN_t] at e
    obtain ⟨b, hb, e⟩ := e
    rw [Bool.and_eq_true] at e
    have hne : b ≠ a := fun q => by rw [q, hP.2.1 a ha] at e; exact absurd e.2 (by decide)
    have := dsM_t.mp q b a hb ha (by rw [hk, e.1, decide_eq_false hne]; rfl) e.2
    rw [hk] at this
    simp at this
def exV (n : Nat) (A : Nat → Int32) (t : Nat) : Int64 := if dsM n A t = true then eF n A (ct (fun i => t.testBit i) n) (fun i => t.testBit i) else 0
set_option maxRecDepth 100000 in
set_option maxHeartbeats 4000000 in
theorem b_X12_extensions_0 {z : amZ} {post : amP} {G : amG} {I : amI} {L : amL} (hz : Go z cX12_extensions RX12 3 (some .long) 4 0 0 post) (hG : Lay G)  (h : (mOk L) ∧ Wx z 0 0 13 [(0, .ref ((zB z).size + 64)), (1, .int 1)] [] G (setI I 79 (wr (I 79) 0 (mN L) (fun a => m_dn L (nI a)))) (setL L 78 (vp_updL (L 78) (0 : Int32).toNatClampNeg (1 : Int64)))) : Wx z 0 0 0 [(0, .ref ((zB z).size + 64))] [] G I L := by
  have hz1 := hz.1
  refine am_aload_n hz1 dX12_extensions_0 0 rfl rfl ?_
  obtain ⟨g1, h⟩ := h
  refine am_cVf hz cv_X12_402 [] [] (c_X12_laysDown hG  g1) (ln_64 hG) (lk_64 hG) rfl rfl rfl ⟨Nat.le_refl _, Nat.le_refl _⟩ (Nat.le_of_ble_eq_true rfl) dX12_extensions_1 ?_
  refine am_aload_n hz1 dX12_extensions_4 0 rfl rfl ?_
  refine am_getR hz1 fl_X12_54 (ln_64 hG) (lk_64 hG) (lr_64_22 hG) rfl dX12_extensions_5 ?_
  refine am_iconst (v := 0) hz1 dX12_extensions_8 (by decide) ?_
  refine am_lconst (v := 1) hz1 dX12_extensions_9 (by decide) ?_
  refine am_last hz1 (ln_78 hG) (lk_78 hG) (by rw [(ll_78 hG)]; exact in_nI (n := 0) (by decide) (by decide)) dX12_extensions_10 ?_
  refine am_iconst (v := 1) hz1 dX12_extensions_11 (by decide) ?_
  refine am_istore_n (lv' := [(1, .int 1), (0, .ref ((zB z).size + 64))]) hz1 dX12_extensions_12 rfl rfl rfl ?_
  exact am_sub (lv' := [(0, .ref ((zB z).size + 64)), (1, .int 1)]) [1, 0] rfl h
set_option maxRecDepth 100000 in
set_option maxHeartbeats 4000000 in
theorem b_X12_extensions_13 {z : amZ} {post : amP} {G : amG} {I : amI} {L : amL} (hz : Go z cX12_extensions RX12 3 (some .long) 4 0 0 post) (hG : Lay G) {v1 : Int32} (h : ((((1 : Int32) <<< ((m_many L) &&& 31)) ≤ v1) → vp_in (((1 : Int32) <<< ((m_many L) &&& 31)) - (1 : Int32)) 65536 ∧ post (some (.long (L 78 (((1 : Int32) <<< ((m_many L) &&& 31)) - (1 : Int32)).toNatClampNeg))) G I L) ∧ ((¬ ((1 : Int32) <<< ((m_many L) &&& 31)) ≤ v1) → vp_in v1 65536 ∧ (mOk (setL L 78 (vp_updL (L 78) v1.toNatClampNeg (0 : Int64)))) ∧ ((m_isD I (setL L 78 (vp_updL (L 78) v1.toNatClampNeg (0 : Int64))) v1 = true) → Wx z 0 0 43 [(0, .ref ((zB z).size + 64)), (1, .int v1), (2, .int 0)] [] G I (setL L 78 (vp_updL (L 78) v1.toNatClampNeg (0 : Int64)))) ∧ ((m_isD I (setL L 78 (vp_updL (L 78) v1.toNatClampNeg (0 : Int64))) v1 = false) → Wx z 0 0 13 [(0, .ref ((zB z).size + 64)), (1, .int (v1 + 1))] [] G I (setL L 78 (vp_updL (L 78) v1.toNatClampNeg (0 : Int64)))))) : Wx z 0 0 13 [(0, .ref ((zB z).size + 64)), (1, .int v1)] [] G I L := by
  have hz1 := hz.1
  refine am_iload_n hz1 dX12_extensions_13 1 rfl rfl ?_
  refine am_iconst (v := 1) hz1 dX12_extensions_14 (by decide) ?_
  refine am_aload_n hz1 dX12_extensions_15 0 rfl rfl ?_
  refine am_cVf hz cv_X12_78 [] [.int 1, .int v1] (c_X12_many hG  ) (ln_64 hG) (lk_64 hG) rfl rfl rfl ⟨Nat.le_refl _, Nat.le_refl _⟩ (Nat.le_of_ble_eq_true rfl) dX12_extensions_16 ?_
  refine am_ishl hz1 dX12_extensions_19 ?_
  refine am_icmp_ge (tgt := 92) hz1 dX12_extensions_20 (by decide) (fun c1 => ?_) (fun c1 => ?_)
  · replace h := h.1 c1
    refine am_aload_n hz1 dX12_extensions_92 0 rfl rfl ?_
    refine am_getR hz1 fl_X12_54 (ln_64 hG) (lk_64 hG) (lr_64_22 hG) rfl dX12_extensions_93 ?_
    refine am_iconst (v := 1) hz1 dX12_extensions_96 (by decide) ?_
    refine am_aload_n hz1 dX12_extensions_97 0 rfl rfl ?_
    refine am_cVf hz cv_X12_78 [] [.int 1, .ref ((zB z).size + 78)] (c_X12_many hG  ) (ln_64 hG) (lk_64 hG) rfl rfl rfl ⟨Nat.le_refl _, Nat.le_refl _⟩ (Nat.le_of_ble_eq_true rfl) dX12_extensions_98 ?_
    refine am_ishl hz1 dX12_extensions_101 ?_
    refine am_iconst (v := 1) hz1 dX12_extensions_102 (by decide) ?_
    refine am_isub hz1 dX12_extensions_103 ?_
    obtain ⟨g2, h⟩ := h
    refine am_lald hz1 (ln_78 hG) (lk_78 hG) (by rw [(ll_78 hG)]; exact g2) dX12_extensions_104 ?_
    exact am_lreturn hz dX12_extensions_105 h
  · replace h := h.2 c1
    refine am_aload_n hz1 dX12_extensions_23 0 rfl rfl ?_
    refine am_getR hz1 fl_X12_54 (ln_64 hG) (lk_64 hG) (lr_64_22 hG) rfl dX12_extensions_24 ?_
    refine am_iload_n hz1 dX12_extensions_27 1 rfl rfl ?_
    refine am_lconst (v := 0) hz1 dX12_extensions_28 (by decide) ?_
    obtain ⟨g3, h⟩ := h
    refine am_last hz1 (ln_78 hG) (lk_78 hG) (by rw [(ll_78 hG)]; exact g3) dX12_extensions_29 ?_
    refine am_aload_n hz1 dX12_extensions_30 0 rfl rfl ?_
    refine am_iload_n hz1 dX12_extensions_31 1 rfl rfl ?_
    obtain ⟨g4, h⟩ := h
    refine am_cVf hz cv_X12_405 [.int v1] [] (c_X12_isDownSet hG v1 g4) (ln_64 hG) (lk_64 hG) rfl rfl rfl ⟨Nat.le_refl _, Nat.le_refl _⟩ (Nat.le_of_ble_eq_true rfl) dX12_extensions_32 ?_
    refine am_ifb_ne (tgt := 41) hz1 dX12_extensions_35 (by decide) (fun c5 => ?_) (fun c5 => ?_)
    · replace h := h.1 c5
      refine am_iconst (v := 0) hz1 dX12_extensions_41 (by decide) ?_
      refine am_istore_n (lv' := [(2, .int 0), (0, .ref ((zB z).size + 64)), (1, .int v1)]) hz1 dX12_extensions_42 rfl rfl rfl ?_
      exact am_sub (lv' := [(0, .ref ((zB z).size + 64)), (1, .int v1), (2, .int 0)]) [1, 2, 0] rfl h
    · replace h := h.2 c5
      refine am_goto (tgt := 86) hz1 dX12_extensions_38 (by decide) ?_
      refine am_iinc (v := v1 + 1) (lv' := [(1, .int (v1 + 1)), (0, .ref ((zB z).size + 64))]) hz1 dX12_extensions_86 1 rfl rfl rfl rfl ?_
      refine am_goto (tgt := 13) hz1 dX12_extensions_89 (by decide) ?_
      exact am_sub (lv' := [(0, .ref ((zB z).size + 64)), (1, .int (v1 + 1))]) [1, 0] rfl h
set_option maxRecDepth 100000 in
set_option maxHeartbeats 4000000 in
theorem b_X12_extensions_43 {z : amZ} {post : amP} {G : amG} {I : amI} {L : amL} (hz : Go z cX12_extensions RX12 3 (some .long) 4 0 0 post) (hG : Lay G) {v1 : Int32} {v2 : Int32} (h : (((m_many L) ≤ v2) → Wx z 0 0 13 [(0, .ref ((zB z).size + 64)), (1, .int (v1 + 1))] [] G I L) ∧ ((¬ (m_many L) ≤ v2) → ((m_has v1 v2 = false) → Wx z 0 0 43 [(0, .ref ((zB z).size + 64)), (1, .int v1), (2, .int (v2 + 1))] [] G I L) ∧ ((m_has v1 v2 = true) → vp_in v1 65536 ∧ vp_in (v1 &&& (((1 : Int32) <<< (v2 &&& 31)) ^^^ (-1 : Int32))) 65536 ∧ vp_in v1 65536 ∧ Wx z 0 0 43 [(0, .ref ((zB z).size + 64)), (1, .int v1), (2, .int (v2 + 1))] [] G I (setL L 78 (vp_updL (L 78) v1.toNatClampNeg ((L 78 v1.toNatClampNeg) + (L 78 (v1 &&& (((1 : Int32) <<< (v2 &&& 31)) ^^^ (-1 : Int32))).toNatClampNeg))))))) : Wx z 0 0 43 [(0, .ref ((zB z).size + 64)), (1, .int v1), (2, .int v2)] [] G I L := by
  have hz1 := hz.1
  refine am_iload_n hz1 dX12_extensions_43 2 rfl rfl ?_
  refine am_aload_n hz1 dX12_extensions_44 0 rfl rfl ?_
  refine am_cVf hz cv_X12_78 [] [.int v2] (c_X12_many hG  ) (ln_64 hG) (lk_64 hG) rfl rfl rfl ⟨Nat.le_refl _, Nat.le_refl _⟩ (Nat.le_of_ble_eq_true rfl) dX12_extensions_45 ?_
  refine am_icmp_ge (tgt := 86) hz1 dX12_extensions_48 (by decide) (fun c1 => ?_) (fun c1 => ?_)
  · replace h := h.1 c1
    refine am_iinc (v := v1 + 1) (lv' := [(1, .int (v1 + 1)), (0, .ref ((zB z).size + 64)), (2, .int v2)]) hz1 dX12_extensions_86 1 rfl rfl rfl rfl ?_
    refine am_goto (tgt := 13) hz1 dX12_extensions_89 (by decide) ?_
    exact am_sub (lv' := [(0, .ref ((zB z).size + 64)), (1, .int (v1 + 1))]) [1, 0] rfl h
  · replace h := h.2 c1
    refine am_iload_n hz1 dX12_extensions_51 1 rfl rfl ?_
    refine am_iload_n hz1 dX12_extensions_52 2 rfl rfl ?_
    refine am_cSf hz ct_X12_90 [.int v1, .int v2] [] (c_X12_has hG v1 v2 ) rfl rfl rfl ⟨Nat.le_refl _, Nat.le_refl _⟩ (Nat.le_of_ble_eq_true rfl) dX12_extensions_53 ?_
    refine am_ifb_eq (tgt := 80) hz1 dX12_extensions_56 (by decide) (fun c2 => ?_) (fun c2 => ?_)
    · replace h := h.1 c2
      refine am_iinc (v := v2 + 1) (lv' := [(2, .int (v2 + 1)), (0, .ref ((zB z).size + 64)), (1, .int v1)]) hz1 dX12_extensions_80 2 rfl rfl rfl rfl ?_
      refine am_goto (tgt := 43) hz1 dX12_extensions_83 (by decide) ?_
      exact am_sub (lv' := [(0, .ref ((zB z).size + 64)), (1, .int v1), (2, .int (v2 + 1))]) [1, 2, 0] rfl h
    · replace h := h.2 c2
      refine am_aload_n hz1 dX12_extensions_59 0 rfl rfl ?_
      refine am_getR hz1 fl_X12_54 (ln_64 hG) (lk_64 hG) (lr_64_22 hG) rfl dX12_extensions_60 ?_
      refine am_iload_n hz1 dX12_extensions_63 1 rfl rfl ?_
      refine am_dup2 hz1 dX12_extensions_64 rfl rfl ?_
      obtain ⟨g3, h⟩ := h
      refine am_lald hz1 (ln_78 hG) (lk_78 hG) (by rw [(ll_78 hG)]; exact g3) dX12_extensions_65 ?_
      refine am_aload_n hz1 dX12_extensions_66 0 rfl rfl ?_
      refine am_getR hz1 fl_X12_54 (ln_64 hG) (lk_64 hG) (lr_64_22 hG) rfl dX12_extensions_67 ?_
      refine am_iload_n hz1 dX12_extensions_70 1 rfl rfl ?_
      refine am_iconst (v := 1) hz1 dX12_extensions_71 (by decide) ?_
      refine am_iload_n hz1 dX12_extensions_72 2 rfl rfl ?_
      refine am_ishl hz1 dX12_extensions_73 ?_
      refine am_iconst (v := (-1)) hz1 dX12_extensions_74 (by decide) ?_
      refine am_ixor hz1 dX12_extensions_75 ?_
      refine am_iand hz1 dX12_extensions_76 ?_
      obtain ⟨g4, h⟩ := h
      refine am_lald hz1 (ln_78 hG) (lk_78 hG) (by rw [(ll_78 hG)]; exact g4) dX12_extensions_77 ?_
      refine am_ladd hz1 dX12_extensions_78 ?_
      obtain ⟨g5, h⟩ := h
      refine am_last hz1 (ln_78 hG) (lk_78 hG) (by rw [(ll_78 hG)]; exact g5) dX12_extensions_79 ?_
      refine am_iinc (v := v2 + 1) (lv' := [(2, .int (v2 + 1)), (0, .ref ((zB z).size + 64)), (1, .int v1)]) hz1 dX12_extensions_80 2 rfl rfl rfl rfl ?_
      refine am_goto (tgt := 43) hz1 dX12_extensions_83 (by decide) ?_
      exact am_sub (lv' := [(0, .ref ((zB z).size + 64)), (1, .int v1), (2, .int (v2 + 1))]) [1, 2, 0] rfl h
set_option maxRecDepth 100000 in
set_option maxHeartbeats 4000000 in
theorem c_X12_extensions {l : Launch} {D : va_G} {B : Heap} {G : amG} {I : amI} {L : amL}  (hG : Lay G)   {n : Nat} {A : Nat → Int32} (hM : MO L n A) : Mx l D B yX12_extensions cX12_extensions 3 (some .long) 4 0 0 [.ref (B.size + 64)] G I L (fun r G1 I1 L1 => r = some (.long (eF n A n (fun _ => true))) ∧ G1 = G ∧ (∃ f : Nat → Int64, L1 = setL L 78 f) ∧ ∃ f : Nat → Int32, I1 = setI I 79 f) := by
  refine Mx.of (by decide) rfl rfl (fun z e1 e2 e3 hz => ?_)
  subst e1; subst e2; subst e3
  refine b_X12_extensions_0 hz hG ?_
  have h16 := hM.2.1
  have h1 := hM.1
  have hP := hM.2.2.1
  have hp := p2_le h16
  have hp1 : 1 ≤ 2 ^ n := Nat.one_le_two_pow
  refine ⟨⟨n, A, hM⟩, ?_⟩
  generalize hI0 : setI I 79 (wr (I 79) 0 (mN L) (fun a => m_dn L (nI a))) = I0
  have hd : ∀ a, a < n → I0 79 a = dnS n A a := by rw [← hI0]; exact dn79 hM
  have hM' : ∀ f, MO (setL L 78 f) n A := fun f => MO_72 hM (by decide)
  have hmm : ∀ f, (1 : Int32) <<< (m_many (setL L 78 f) &&& 31) = nI (2 ^ n) := fun f => by rw [(hM' f).many, p2 n h16]
  have main : ∀ f : Nat → Int64, (∀ t, t < 1 + 0 → t < 2 ^ n → f t = exV n A t) → Wx z 0 0 13 [(0, .ref ((zB z).size + 64)), (1, .int (nI (1 + 0)))] [] G I0 (setL L 78 f) := by
    refine for_up (P := fun k => ∀ f : Nat → Int64, (∀ t, t < 1 + k → t < 2 ^ n → f t = exV n A t) → Wx z 0 0 13 [(0, .ref ((zB z).size + 64)), (1, .int (nI (1 + k)))] [] G I0 (setL L 78 f)) (n := 2 ^ n - 1) ?_ ?_ (Nat.zero_le _)
    · intro f hf
      have e : nI (2 ^ n) - 1 = nI (2 ^ n - 1) := by
        obtain ⟨j, hj⟩ : ∃ j, 2 ^ n = j + 1 := ⟨2 ^ n - 1, by omega⟩
        rw [hj, nI_pred, Nat.add_sub_cancel]
      refine b_X12_extensions_13 hz hG ⟨fun _ => ?_, fun h => absurd ?_ h⟩
      · rw [hmm, e]
        refine ⟨in_nI (by omega) (by decide), ?_, rfl, ⟨f, rfl⟩, _, hI0.symm⟩
        rw [cl_nI (by omega), setL_s, hf _ (by omega) (by omega), exV]
        have hall : ∀ i, i < n → (2 ^ n - 1).testBit i = true := fun i hi => by rw [Nat.testBit_two_pow_sub_one]; exact decide_eq_true hi
        rw [if_pos (dsM_t.mpr (fun a x ha hx _ _ => hall x hx))]
        have hc : ct (fun i => (2 ^ n - 1).testBit i) n = n := by
          have : ∀ m, m ≤ n → ct (fun i => (2 ^ n - 1).testBit i) m = m := by
            intro m
            induction m with
            | zero => intro _; rfl
            | succ m ih => intro hm; rw [ct, ih (by omega), if_pos (hall m (by omega))]
          exact this n (Nat.le_refl _)
        rw [hc, eF_c n (T := fun _ => true) (fun x hx => hall x hx)]
      · rw [hmm]; exact nI_le (by omega) (by omega)
    · intro k hk ih f hf
      have ht : 1 + k < 2 ^ n := by omega
      have hO := hM' (vp_updL f (1 + k) 0)
      refine b_X12_extensions_13 hz hG ⟨fun h => absurd h (by rw [hmm]; exact nI_ge ht (by omega)), fun _ => ⟨in_nI (by omega) (by decide), ?_⟩⟩
      rw [setL_ss, setL_s, cl_nI (n := 1 + k) (by omega), isD_M hO hd ht, nI_1]
      refine ⟨⟨n, A, hO⟩, fun g => ?_, fun g => ?_⟩
      · -- a down-set
        have hsum : ∀ a, a ≤ n → Wx z 0 0 43 [(0, .ref ((zB z).size + 64)), (1, .int (nI (1 + k))), (2, .int (nI a))] [] G I0 (setL L 78 (vp_updL f (1 + k) (sumC (mxB n A (fun i => (1 + k).testBit i)) (fun a => eF n A (ct (fun i => (1 + k).testBit i) n - 1) (fun x => (1 + k).testBit x && !decide (x = a))) a))) := by
          intro a ha
          refine for_up (P := fun a => Wx z 0 0 43 [(0, .ref ((zB z).size + 64)), (1, .int (nI (1 + k))), (2, .int (nI a))] [] G I0 (setL L 78 (vp_updL f (1 + k) (sumC (mxB n A (fun i => (1 + k).testBit i)) (fun a => eF n A (ct (fun i => (1 + k).testBit i) n - 1) (fun x => (1 + k).testBit x && !decide (x = a))) a)))) (n := n) ?_ ?_ ha
          · refine b_X12_extensions_43 hz hG ⟨fun _ => ?_, fun h => absurd (mm_le (hM' _)) h⟩
            rw [nI_1]
            refine ih _ (fun t h2 h3 => ?_)
            by_cases e : t = 1 + k
            · subst e
              obtain ⟨i, hi⟩ : ∃ i, (1 + k).testBit i = true := by
                apply Classical.byContradiction
                intro q
                have : 1 + k = 0 := Nat.eq_of_testBit_eq (fun i => by
                  rw [Nat.zero_testBit, Bool.eq_false_iff]
                  exact fun h => q ⟨i, h⟩)
                omega
              have hc := ct_rm (f := fun i => (1 + k).testBit i) (tbn ht hi) hi
              obtain ⟨c, hc2⟩ : ∃ c, ct (fun i => (1 + k).testBit i) n = c + 1 := ⟨_, hc.symm⟩
              rw [updL_s, exV, if_pos g, hc2, eF, Nat.add_sub_cancel]
            · rw [updL_n e]
              exact hf t (by omega) h3
          · intro a ha ah
            have hO := hM' (vp_updL f (1 + k) (sumC (mxB n A (fun i => (1 + k).testBit i)) (fun a => eF n A (ct (fun i => (1 + k).testBit i) n - 1) (fun x => (1 + k).testBit x && !decide (x = a))) a))
            refine b_X12_extensions_43 hz hG ⟨fun h => absurd h (mm_ge hO ha), fun _ => ?_⟩
            rw [has_b (by omega), bt_nI (1 + k) a (by omega)]
            refine ⟨fun q => ?_, fun q => ?_⟩
            · rw [sumC, if_neg (by rw [mxB, q]; simp)] at ah
              rw [nI_1]
              exact ah
            · obtain ⟨k', hk', e', hb', hlt⟩ := clr (t := 1 + k) (a := a) (by omega) (by omega)
              have hlt := hlt q
              rw [e']
              refine ⟨in_nI (by omega) (by decide), in_nI (by omega) (by decide), in_nI (by omega) (by decide), ?_⟩
              rw [setL_ss, setL_s, cl_nI (n := 1 + k) (by omega), cl_nI (n := k') (by omega), updL_s, updL_n (by omega), updL_u, nI_1, hf k' (by omega) (by omega), exV, ds_rm hP (by omega) g ha q hb']
              have hc := ct_rm (f := fun i => (1 + k).testBit i) ha q
              by_cases hm : mxB n A (fun i => (1 + k).testBit i) a = true
              · rw [sumC, if_pos hm] at ah
                rw [if_pos hm, ct_cong (g := fun x => (1 + k).testBit x && !decide (x = a)) (fun i _ => hb' i), show ct (fun x => (1 + k).testBit x && !decide (x = a)) n = ct (fun i => (1 + k).testBit i) n - 1 by omega, eF_c _ (fun x _ => hb' x)]
                exact ah
              · rw [sumC, if_neg hm] at ah
                rw [if_neg hm, Int64.add_zero]
                exact ah
        have := hsum 0 (Nat.zero_le _)
        rw [sumC] at this
        exact this
      · refine ih _ (fun t h2 h3 => ?_)
        by_cases e : t = 1 + k
        · subst e
          rw [updL_s, exV, if_neg (by rw [g]; decide)]
        · rw [updL_n e]
          exact hf t (by omega) h3
  refine main _ (fun t h2 h3 => ?_)
  have : t = 0 := by omega
  subst this
  show vp_updL (L 78) 0 1 0 = _
  rw [updL_s, exV, if_pos (dsM_t.mpr (fun a x _ _ h _ => by rw [Nat.zero_testBit] at h; cases h)), ct_0.mpr (fun i _ => Nat.zero_testBit i), eF]
/-- sets of elements that are apart -/
def apM (n : Nat) (A : Nat → Int32) (t : Nat) : Bool := scan (fun a => t.testBit a && orN (fun x => t.testBit x && bt (A x) a) n) (fun _ => false) true n 0
theorem apM_t {n : Nat} {A : Nat → Int32} {t : Nat} : apM n A t = true ↔ ∀ a x, a < n → x < n → t.testBit a = true → t.testBit x = true → bt (A x) a = false := by
  rw [apM, scan_tf]
  constructor
  · intro h a x ha hx h1 h2
    have := h a ha
    rw [h1, Bool.true_and, Bool.eq_false_iff] at this
    cases e : bt (A x) a
    · rfl
    · exact absurd (orN_t.mpr ⟨x, hx, by rw [h2, e]; rfl⟩) this
  · intro h a ha
    rw [Bool.eq_false_iff]
    intro q
    rw [Bool.and_eq_true, orN_t] at q
    obtain ⟨q1, x, hx, q2⟩ := q
    rw [Bool.and_eq_true] at q2
    rw [h a x ha hx q1 q2.1] at q2
    exact absurd q2.2 (by decide)
theorem isA_M {n t : Nat} {A : Nat → Int32} {I : amI} {L : amL} (hM : MO L n A) (hI : ∀ a, a < n → I 79 a = dnS n A a) (ht : t < 2 ^ n) : m_isA I L (nI t) = apM n A t := by
  have h16 := hM.2.1
  have hP := hM.2.2.1
  rw [m_isA, hM.N, apM]
  refine scan_cong _ _ (fun a _ ha => ⟨?_, rfl⟩)
  have han : a < n := by omega
  rw [has_b (by omega), bt_nI t a (by omega), hI a han]
  cases e : t.testBit a
  · rfl
  · rw [Bool.true_and, Bool.true_and]
    have hiff : (nI t &&& dnS n A a) = (1 : Int32) <<< (nI a &&& 31) ↔ orN (fun x => t.testBit x && bt (A x) a) n = false := by
      rw [Bool.eq_false_iff, Ne, orN_t]
      constructor
      · rintro h ⟨x, hx, q⟩
        rw [Bool.and_eq_true] at q
        have hb : bt (nI t &&& dnS n A a) x = true := by
          rw [b_and, bt_nI t x (by omega), q.1, dn_b (by omega) han (by omega), decide_eq_true hx, lt_le (by omega) (by omega) q.2]; rfl
        rw [h, b_one a (by omega) (by omega), decide_eq_true_eq] at hb
        subst hb
        rw [hP.2.1 x hx] at q
        exact absurd q.2 (by decide)
      · intro h
        apply b_ext
        intro i hi
        rw [b_and, bt_nI t i hi, dn_b (by omega) han hi, b_one a (by omega) hi]
        by_cases q : i = a
        · subst q; rw [e, decide_eq_true han, le_rf hi]; simp
        · rw [decide_eq_false q, Bool.eq_false_iff]
          intro g
          rw [Bool.and_eq_true, Bool.and_eq_true, decide_eq_true_eq, le_b hi (by omega), Bool.or_eq_true, decide_eq_true_eq] at g
          rcases g.2.2 with g2 | g2
          · exact h ⟨i, g.2.1, by rw [g.1, g2]; rfl⟩
          · exact q g2.symm
    by_cases hh : (nI t &&& dnS n A a) = (1 : Int32) <<< (nI a &&& 31)
    · rw [decide_eq_false (not_not_intro hh), hiff.mp hh]
    · rw [decide_eq_true hh]
      cases q : orN (fun x => t.testBit x && bt (A x) a) n
      · exact absurd (hiff.mpr q) hh
      · rfl
/-- the most elements that are apart, among those of S -/
def isWd (n : Nat) (A : Nat → Int32) (S : Nat → Bool) (m : Nat) : Prop := (∃ t, t < 2 ^ n ∧ (∀ i, t.testBit i = true → S i = true) ∧ apM n A t = true ∧ ct (fun i => t.testBit i) n = m) ∧ ∀ t, t < 2 ^ n → (∀ i, t.testBit i = true → S i = true) → apM n A t = true → ct (fun i => t.testBit i) n ≤ m
theorem isWd_un {n : Nat} {A : Nat → Int32} {S : Nat → Bool} {m m' : Nat} (h : isWd n A S m) (h' : isWd n A S m') : m = m' := by
  obtain ⟨⟨t, h1, h2, h3, h4⟩, h5⟩ := h
  obtain ⟨⟨t', h1', h2', h3', h4'⟩, h5'⟩ := h'
  have a := h5 t' h1' h2' h3'
  have b := h5' t h1 h2 h3
  omega
set_option maxRecDepth 100000 in
set_option maxHeartbeats 4000000 in
theorem b_X12_widest_0 {z : amZ} {post : amP} {G : amG} {I : amI} {L : amL} (hz : Go z cX12_widest RX12 3 (some .int) 4 0 0 post) (hG : Lay G)  (h : (mOk L) ∧ Wx z 0 0 8 [(0, .ref ((zB z).size + 64)), (1, .int 0), (2, .int 1)] [] G (setI I 79 (wr (I 79) 0 (mN L) (fun a => m_dn L (nI a)))) L) : Wx z 0 0 0 [(0, .ref ((zB z).size + 64))] [] G I L := by
  have hz1 := hz.1
  refine am_aload_n hz1 dX12_widest_0 0 rfl rfl ?_
  obtain ⟨g1, h⟩ := h
  refine am_cVf hz cv_X12_402 [] [] (c_X12_laysDown hG  g1) (ln_64 hG) (lk_64 hG) rfl rfl rfl ⟨Nat.le_refl _, Nat.le_refl _⟩ (Nat.le_of_ble_eq_true rfl) dX12_widest_1 ?_
  refine am_iconst (v := 0) hz1 dX12_widest_4 (by decide) ?_
  refine am_istore_n (lv' := [(1, .int 0), (0, .ref ((zB z).size + 64))]) hz1 dX12_widest_5 rfl rfl rfl ?_
  refine am_iconst (v := 1) hz1 dX12_widest_6 (by decide) ?_
  refine am_istore_n (lv' := [(2, .int 1), (1, .int 0), (0, .ref ((zB z).size + 64))]) hz1 dX12_widest_7 rfl rfl rfl ?_
  exact am_sub (lv' := [(0, .ref ((zB z).size + 64)), (1, .int 0), (2, .int 1)]) [2, 1, 0] rfl h
set_option maxRecDepth 100000 in
set_option maxHeartbeats 4000000 in
theorem b_X12_widest_8 {z : amZ} {post : amP} {G : amG} {I : amI} {L : amL} (hz : Go z cX12_widest RX12 3 (some .int) 4 0 0 post) (hG : Lay G) {v1 : Int32} {v2 : Int32} (h : ((((1 : Int32) <<< ((m_many L) &&& 31)) ≤ v2) → post (some (.int v1)) G I L) ∧ ((¬ ((1 : Int32) <<< ((m_many L) &&& 31)) ≤ v2) → (s16 v2) ∧ (((m_size v2) ≤ v1) → Wx z 0 0 8 [(0, .ref ((zB z).size + 64)), (1, .int v1), (2, .int (v2 + 1))] [] G I L) ∧ ((¬ (m_size v2) ≤ v1) → (mOk L) ∧ ((m_isA I L v2 = false) → Wx z 0 0 8 [(0, .ref ((zB z).size + 64)), (1, .int v1), (2, .int (v2 + 1))] [] G I L) ∧ ((m_isA I L v2 = true) → (s16 v2) ∧ Wx z 0 0 8 [(0, .ref ((zB z).size + 64)), (1, .int (m_size v2)), (2, .int (v2 + 1))] [] G I L)))) : Wx z 0 0 8 [(0, .ref ((zB z).size + 64)), (1, .int v1), (2, .int v2)] [] G I L := by
  have hz1 := hz.1
  refine am_iload_n hz1 dX12_widest_8 2 rfl rfl ?_
  refine am_iconst (v := 1) hz1 dX12_widest_9 (by decide) ?_
  refine am_aload_n hz1 dX12_widest_10 0 rfl rfl ?_
  refine am_cVf hz cv_X12_78 [] [.int 1, .int v2] (c_X12_many hG  ) (ln_64 hG) (lk_64 hG) rfl rfl rfl ⟨Nat.le_refl _, Nat.le_refl _⟩ (Nat.le_of_ble_eq_true rfl) dX12_widest_11 ?_
  refine am_ishl hz1 dX12_widest_14 ?_
  refine am_icmp_ge (tgt := 45) hz1 dX12_widest_15 (by decide) (fun c1 => ?_) (fun c1 => ?_)
  · replace h := h.1 c1
    refine am_iload_n hz1 dX12_widest_45 1 rfl rfl ?_
    exact am_ireturn hz dX12_widest_46 h
  · replace h := h.2 c1
    refine am_iload_n hz1 dX12_widest_18 2 rfl rfl ?_
    obtain ⟨g2, h⟩ := h
    refine am_cSf hz ct_X12_111 [.int v2] [] (c_X12_size hG v2 g2) rfl rfl rfl ⟨Nat.le_refl _, Nat.le_refl _⟩ (Nat.le_of_ble_eq_true rfl) dX12_widest_19 ?_
    refine am_iload_n hz1 dX12_widest_22 1 rfl rfl ?_
    refine am_icmp_le (tgt := 39) hz1 dX12_widest_23 (by decide) (fun c3 => ?_) (fun c3 => ?_)
    · replace h := h.1 c3
      refine am_iinc (v := v2 + 1) (lv' := [(2, .int (v2 + 1)), (0, .ref ((zB z).size + 64)), (1, .int v1)]) hz1 dX12_widest_39 2 rfl rfl rfl rfl ?_
      refine am_goto (tgt := 8) hz1 dX12_widest_42 (by decide) ?_
      exact am_sub (lv' := [(0, .ref ((zB z).size + 64)), (1, .int v1), (2, .int (v2 + 1))]) [1, 2, 0] rfl h
    · replace h := h.2 c3
      refine am_aload_n hz1 dX12_widest_26 0 rfl rfl ?_
      refine am_iload_n hz1 dX12_widest_27 2 rfl rfl ?_
      obtain ⟨g4, h⟩ := h
      refine am_cVf hz cv_X12_491 [.int v2] [] (c_X12_isApart hG v2 g4) (ln_64 hG) (lk_64 hG) rfl rfl rfl ⟨Nat.le_refl _, Nat.le_refl _⟩ (Nat.le_of_ble_eq_true rfl) dX12_widest_28 ?_
      refine am_ifb_eq (tgt := 39) hz1 dX12_widest_31 (by decide) (fun c5 => ?_) (fun c5 => ?_)
      · replace h := h.1 c5
        refine am_iinc (v := v2 + 1) (lv' := [(2, .int (v2 + 1)), (0, .ref ((zB z).size + 64)), (1, .int v1)]) hz1 dX12_widest_39 2 rfl rfl rfl rfl ?_
        refine am_goto (tgt := 8) hz1 dX12_widest_42 (by decide) ?_
        exact am_sub (lv' := [(0, .ref ((zB z).size + 64)), (1, .int v1), (2, .int (v2 + 1))]) [1, 2, 0] rfl h
      · replace h := h.2 c5
        refine am_iload_n hz1 dX12_widest_34 2 rfl rfl ?_
        obtain ⟨g6, h⟩ := h
        refine am_cSf hz ct_X12_111 [.int v2] [] (c_X12_size hG v2 g6) rfl rfl rfl ⟨Nat.le_refl _, Nat.le_refl _⟩ (Nat.le_of_ble_eq_true rfl) dX12_widest_35 ?_
        refine am_istore_n (lv' := [(1, .int (m_size v2)), (0, .ref ((zB z).size + 64)), (2, .int v2)]) hz1 dX12_widest_38 rfl rfl rfl ?_
        refine am_iinc (v := v2 + 1) (lv' := [(2, .int (v2 + 1)), (1, .int (m_size v2)), (0, .ref ((zB z).size + 64))]) hz1 dX12_widest_39 2 rfl rfl rfl rfl ?_
        refine am_goto (tgt := 8) hz1 dX12_widest_42 (by decide) ?_
        exact am_sub (lv' := [(0, .ref ((zB z).size + 64)), (1, .int (m_size v2)), (2, .int (v2 + 1))]) [2, 1, 0] rfl h
set_option maxRecDepth 100000 in
set_option maxHeartbeats 4000000 in
theorem c_X12_widest {l : Launch} {D : va_G} {B : Heap} {G : amG} {I : amI} {L : amL}  (hG : Lay G)   {n : Nat} {A : Nat → Int32} (hM : MO L n A) : Mx l D B yX12_widest cX12_widest 3 (some .int) 4 0 0 [.ref (B.size + 64)] G I L (fun r G1 I1 L1 => ∃ m, isWd n A (fun _ => true) m ∧ m ≤ 16 ∧ r = some (.int (nI m)) ∧ G1 = G ∧ L1 = L ∧ ∃ f : Nat → Int32, I1 = setI I 79 f) := by
  refine Mx.of (by decide) rfl rfl (fun z e1 e2 e3 hz => ?_)
  subst e1; subst e2; subst e3
  refine b_X12_widest_0 hz hG ?_
  have h16 := hM.2.1
  have hp := p2_le h16
  have hp1 : 1 ≤ 2 ^ n := Nat.one_le_two_pow
  refine ⟨⟨n, A, hM⟩, ?_⟩
  generalize hI0 : setI I 79 (wr (I 79) 0 (mN L) (fun a => m_dn L (nI a))) = I0
  have hd : ∀ a, a < n → I0 79 a = dnS n A a := by rw [← hI0]; exact dn79 hM
  have hmm : (1 : Int32) <<< (m_many L &&& 31) = nI (2 ^ n) := by rw [hM.many, p2 n h16]
  have main : ∀ m, ((∃ t, t < 1 + 0 ∧ apM n A t = true ∧ ct (fun i => t.testBit i) n = m) ∧ ∀ t, t < 1 + 0 → apM n A t = true → ct (fun i => t.testBit i) n ≤ m) → m ≤ n → Wx z 0 0 8 [(0, .ref ((zB z).size + 64)), (1, .int (nI m)), (2, .int (nI (1 + 0)))] [] G I0 L := by
    refine for_up (P := fun k => ∀ m, ((∃ t, t < 1 + k ∧ apM n A t = true ∧ ct (fun i => t.testBit i) n = m) ∧ ∀ t, t < 1 + k → apM n A t = true → ct (fun i => t.testBit i) n ≤ m) → m ≤ n → Wx z 0 0 8 [(0, .ref ((zB z).size + 64)), (1, .int (nI m)), (2, .int (nI (1 + k)))] [] G I0 L) (n := 2 ^ n - 1) ?_ ?_ (Nat.zero_le _)
    · rintro m ⟨⟨t, h1, h2, h3⟩, h4⟩ hm
      refine b_X12_widest_8 hz hG ⟨fun _ => ⟨m, ⟨⟨t, by omega, fun _ _ => rfl, h2, h3⟩, fun t ht _ ha => h4 t (by omega) ha⟩, by omega, rfl, rfl, rfl, _, hI0.symm⟩, fun h => absurd ?_ h⟩
      rw [hmm]; exact nI_le (by omega) (by omega)
    · rintro k hk ih m ⟨⟨t0, h1, h2, h3⟩, h4⟩ hm
      have ht : 1 + k < 2 ^ n := by omega
      have hcl := ct_le (fun i => (1 + k).testBit i) n
      refine b_X12_widest_8 hz hG ⟨fun h => absurd h (by rw [hmm]; exact nI_ge ht (by omega)), fun _ => ?_⟩
      rw [isA_M hM hd ht, sz_n h16 ht, nI_1]
      refine ⟨nI_16 (by omega), fun g => ?_, fun g => ⟨⟨n, A, hM⟩, fun g2 => ?_, fun g2 => ⟨nI_16 (by omega), ?_⟩⟩⟩
      · rw [nI_leI (by omega) (by omega)] at g
        refine ih m ⟨⟨t0, by omega, h2, h3⟩, fun t q1 q2 => ?_⟩ hm
        by_cases e : t = 1 + k
        · subst e; exact g
        · exact h4 t (by omega) q2
      · refine ih m ⟨⟨t0, by omega, h2, h3⟩, fun t q1 q2 => ?_⟩ hm
        by_cases e : t = 1 + k
        · subst e; rw [g2] at q2; cases q2
        · exact h4 t (by omega) q2
      · rw [nI_leI (by omega) (by omega)] at g
        refine ih _ ⟨⟨1 + k, by omega, g2, rfl⟩, fun t q1 q2 => ?_⟩ hcl
        by_cases e : t = 1 + k
        · subst e; exact Nat.le_refl _
        · have := h4 t (by omega) q2
          omega
  refine main 0 ⟨⟨0, by omega, apM_t.mpr (fun a x _ _ h _ => by rw [Nat.zero_testBit] at h; cases h), ct_0.mpr (fun i _ => Nat.zero_testBit i)⟩, fun t ht _ => ?_⟩ (by omega)
  have : t = 0 := by omega
  subst this
  rw [ct_0.mpr (fun i _ => Nat.zero_testBit i)]
  exact Nat.le_refl _
