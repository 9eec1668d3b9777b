/-! THE REFERENCE: heights, chains -/
theorem MO.bl {L : amL} {n : Nat} {A : Nat → Int32} (h : MO L n A) {a b : Nat} (ha : a < n) (hb : b < n) : m_bl L (nI a) (nI b) = bt (A a) b := by
  have h16 := h.2.1
  rw [m_bl, h.am ha (by omega), lt_b h.2.2.1 (by omega) ha hb]
  rw [show decide (¬ nI a = nI b) = decide (¬ a = b) from decide_eq_decide.mpr (not_congr (nI_eq (by omega) (by omega)))]
theorem ct_0 {f : Nat → Bool} : ∀ {n : Nat}, ct f n = 0 ↔ ∀ i, i < n → f i = false
  | 0 => ⟨fun _ i hi => absurd hi (Nat.not_lt_zero _), fun _ => rfl⟩
  | n + 1 => by
    rw [ct, Nat.add_eq_zero_iff, ct_0 (n := n)]
    constructor
    · rintro ⟨h1, h2⟩ i hi
      by_cases e : i = n
      · subst e
        cases hf : f i
        · rfl
        · rw [hf] at h2; exact absurd h2 (by decide)
      · exact h1 i (by omega)
    · intro h
      exact ⟨fun i hi => h i (by omega), by rw [if_neg (by rw [h n (by omega)]; decide)]⟩
theorem ct_one {x : Nat} : ∀ {n : Nat}, x < n → ct (fun i => decide (i = x)) n = 1
  | 0, h => absurd h (Nat.not_lt_zero _)
  | n + 1, h => by
    rw [ct]
    by_cases e : n = x
    · subst e
      rw [if_pos (by simp), ct_0.mpr (fun i hi => by simp; omega)]
    · rw [if_neg (by simp [e]), ct_one (by omega)]
theorem iv_ct {n : Nat} {A : Nat → Int32} (hP : PO n A) (h16 : n ≤ 16) {a b : Nat} (ha : a < n) (hb : b < n) (h : bt (A a) b = true) : rkS n A a b = 2 + ct (bt (A a &&& bn n A b)) 16 := by
  have hne : a ≠ b := fun e => by subst e; rw [hP.2.1 a ha] at h; cases h
  have e1 : rkS n A a b = ct (fun i => decide (i = a) || (decide (i = b) || bt (A a &&& bn n A b) i)) 16 := by
    apply ct_cong
    intro i hi
    rw [iv_b (by omega) hb (by omega), b_and, bn_bt (by omega) (by omega), le_b (by omega) (by omega)]
    by_cases hin : i < n
    · rw [le_b (by omega) (by omega), decide_eq_true hin]
      by_cases ea : i = a
      · subst ea; simp [h]
      · by_cases eb : i = b
        · subst eb; simp [h]
        · simp [ea, eb, Ne.symm eb]
    · have hbA : bt (A a) i = false := by
        rw [Bool.eq_false_iff]; exact fun q => hin (hP.1 a ha i (by omega) q)
      simp [hin, hbA, show i ≠ a by omega, show i ≠ b by omega]
  rw [e1, ct_add, ct_add, ct_one (by omega), ct_one (by omega)]
  · omega
  · rintro i hi ⟨q1, q2⟩
    rw [decide_eq_true_eq] at q1
    subst q1
    rw [b_and, hP.1 a ha |> fun _ => bn_bt (by omega) (by omega), hP.2.1 i hb, Bool.and_false, Bool.and_false] at q2
    cases q2
  · rintro i hi ⟨q1, q2⟩
    rw [decide_eq_true_eq] at q1
    subst q1
    rw [decide_eq_false hne, Bool.false_or, b_and, hP.2.1 i ha, Bool.false_and] at q2
    cases q2
theorem MO.cov {L : amL} {n : Nat} {A : Nat → Int32} (h : MO L n A) {a b : Nat} (ha : a < n) (hb : b < n) : m_cov L (nI a) (nI b) = cv n A a b := by
  have h16 := h.2.1
  have hP := h.2.2.1
  rw [m_cov, h.bl ha hb, msz h ha hb, cv]
  by_cases e : bt (A a) b = true
  · rw [e, Bool.true_and, Bool.true_and]
    apply decide_eq_decide.mpr
    have hr := rk_le (A := A) (a := a) h16 hb
    rw [show (2 : Int32) = nI 2 from rfl, nI_eq (by omega) (by omega), iv_ct hP h16 ha hb e, b_eq0]
    constructor
    · intro q i hi
      by_cases hin : i < 16
      · exact ct_0.mp (show ct (bt (A a &&& bn n A b)) 16 = 0 by omega) i hin
      · rw [b_and, bn_bt (by omega) hi, decide_eq_false (show ¬ i < n by omega), Bool.false_and, Bool.and_false]
    · intro q
      rw [ct_0.mpr (fun i hi => q i (by omega))]
  · rw [Bool.not_eq_true] at e
    rw [e, Bool.false_and, Bool.false_and]
theorem dn_ct {n : Nat} {A : Nat → Int32} (hP : PO n A) (h16 : n ≤ 16) {b : Nat} (hb : b < n) : ct (bt (dnS n A b)) 16 = key n A b + 1 := by
  have e1 : ct (bt (dnS n A b)) 16 = ct (fun i => decide (i = b) || (decide (i < n) && bt (A i) b)) 16 := by
    apply ct_cong
    intro i hi
    rw [dnS, b_or, bn_bt (by omega) (by omega), b_one b (by omega) (by omega), Bool.or_comm]
  rw [e1, ct_add, ct_one (by omega), ct_lim h16, key]
  · omega
  · rintro i hi ⟨q1, q2⟩
    rw [decide_eq_true_eq] at q1
    subst q1
    rw [hP.2.1 i hb, Bool.and_false] at q2
    cases q2
/-- the heights -/
def htF (n : Nat) (A : Nat → Int32) : Nat → Nat → Int32
  | 0, _ => 0
  | k + 1, x => maxS (htF n A k) (bn n A x) n
def ht (n : Nat) (A : Nat → Int32) (x : Nat) : Int32 := htF n A n x
theorem htF_st {n : Nat} {A : Nat → Int32} (hP : PO n A) (h16 : n ≤ 16) : ∀ (m x k k' : Nat), x < n → key n A x ≤ m → key n A x < k → key n A x < k' → htF n A k x = htF n A k' x := by
  intro m
  induction m with
  | zero =>
    intro x k k' hx h0 hk hk'
    obtain ⟨k, rfl⟩ : ∃ j, k = j + 1 := ⟨k - 1, by omega⟩
    obtain ⟨k', rfl⟩ : ∃ j, k' = j + 1 := ⟨k' - 1, by omega⟩
    rw [htF, htF]
    refine maxS_c (fun y hy hb => ?_)
    have := bn_lt (s := -1) hP h16 hx hy (by rw [b_and, b_m1 y (by omega), hb]; rfl)
    omega
  | succ m ih =>
    intro x k k' hx h0 hk hk'
    obtain ⟨k, rfl⟩ : ∃ j, k = j + 1 := ⟨k - 1, by omega⟩
    obtain ⟨k', rfl⟩ : ∃ j, k' = j + 1 := ⟨k' - 1, by omega⟩
    rw [htF, htF]
    refine maxS_c (fun y hy hb => ?_)
    have := bn_lt (s := -1) hP h16 hx hy (by rw [b_and, b_m1 y (by omega), hb]; rfl)
    exact ih y k k' hy (by omega) (by omega) (by omega)
theorem ht_is {n : Nat} {A : Nat → Int32} (hP : PO n A) (h16 : n ≤ 16) {x : Nat} (hx : x < n) : ht n A x = maxS (ht n A) (bn n A x) n := by
  have hk := key_lt hP hx
  obtain ⟨m, rfl⟩ : ∃ j, n = j + 1 := ⟨n - 1, by omega⟩
  show maxS (htF (m + 1) A m) (bn (m + 1) A x) (m + 1) = _
  refine maxS_c (fun y hy hb => ?_)
  have := bn_lt (s := -1) hP h16 hx hy (by rw [b_and, b_m1 y (by omega), hb]; rfl)
  exact htF_st hP h16 (key (m + 1) A y) y m (m + 1) hy (Nat.le_refl _) (by omega) (key_lt hP hy)
theorem ht_un {n : Nat} {A : Nat → Int32} {f : Nat → Int32} (hP : PO n A) (h16 : n ≤ 16) (hf : ∀ x, x < n → f x = maxS f (bn n A x) n) : ∀ (m x : Nat), x < n → key n A x ≤ m → f x = ht n A x := by
  intro m
  induction m with
  | zero =>
    intro x hx h0
    rw [hf x hx, ht_is hP h16 hx]
    refine maxS_c (fun y hy hb => ?_)
    have := bn_lt (s := -1) hP h16 hx hy (by rw [b_and, b_m1 y (by omega), hb]; rfl)
    omega
  | succ m ih =>
    intro x hx h0
    rw [hf x hx, ht_is hP h16 hx]
    refine maxS_c (fun y hy hb => ?_)
    have := bn_lt (s := -1) hP h16 hx hy (by rw [b_and, b_m1 y (by omega), hb]; rfl)
    exact ih y hy (by omega)
theorem OI.ht {I : amI} {o n : Nat} {A : Nat → Int32} (h : OI I o n A) {x : Nat} (hx : x < n) : I (o + 5) x = ht n A x :=
  ht_un h.2.2.2.2.2.1 h.2.2.1 h.2.2.2.2.2.2.2.2.2.2.1 _ x hx (Nat.le_refl _)
set_option maxRecDepth 100000 in
set_option maxHeartbeats 4000000 in
theorem b_X12_laysHeights_0 {z : amZ} {post : amP} {G : amG} {I : amI} {L : amL} (hz : Go z cX12_laysHeights RX12 4 none 3 0 0 post) (hG : Lay G)  (h : Wx z 0 0 2 [(0, .ref ((zB z).size + 64)), (1, .int 1)] [] G I L) : Wx z 0 0 0 [(0, .ref ((zB z).size + 64))] [] G I L := by
  have hz1 := hz.1
  refine am_iconst (v := 1) hz1 dX12_laysHeights_0 (by decide) ?_
  refine am_istore_n (lv' := [(1, .int 1), (0, .ref ((zB z).size + 64))]) hz1 dX12_laysHeights_1 rfl rfl rfl ?_
  exact am_sub (lv' := [(0, .ref ((zB z).size + 64)), (1, .int 1)]) [1, 0] rfl h
set_option maxRecDepth 100000 in
set_option maxHeartbeats 4000000 in
theorem b_X12_laysHeights_2 {z : amZ} {post : amP} {G : amG} {I : amI} {L : amL} (hz : Go z cX12_laysHeights RX12 4 none 3 0 0 post) (hG : Lay G) {v1 : Int32} (h : (((m_many L) < v1) → post none G I L) ∧ ((¬ (m_many L) < v1) → Wx z 0 0 12 [(0, .ref ((zB z).size + 64)), (1, .int v1), (2, .int 0)] [] G I L)) : Wx z 0 0 2 [(0, .ref ((zB z).size + 64)), (1, .int v1)] [] G I L := by
  have hz1 := hz.1
  refine am_iload_n hz1 dX12_laysHeights_2 1 rfl rfl ?_
  refine am_aload_n hz1 dX12_laysHeights_3 0 rfl rfl ?_
  refine am_cVf hz cv_X12_78 [] [.int v1] (c_X12_many hG  ) (ln_64 hG) (lk_64 hG) rfl rfl rfl ⟨Nat.le_refl _, Nat.le_refl _⟩ (Nat.le_of_ble_eq_true rfl) dX12_laysHeights_4 ?_
  refine am_icmp_gt (tgt := 110) hz1 dX12_laysHeights_7 (by decide) (fun c1 => ?_) (fun c1 => ?_)
  · replace h := h.1 c1
    exact am_return hz dX12_laysHeights_110 h
  · replace h := h.2 c1
    refine am_iconst (v := 0) hz1 dX12_laysHeights_10 (by decide) ?_
    refine am_istore_n (lv' := [(2, .int 0), (0, .ref ((zB z).size + 64)), (1, .int v1)]) hz1 dX12_laysHeights_11 rfl rfl rfl ?_
    exact am_sub (lv' := [(0, .ref ((zB z).size + 64)), (1, .int v1), (2, .int 0)]) [1, 2, 0] rfl h
set_option maxRecDepth 100000 in
set_option maxHeartbeats 4000000 in
theorem b_X12_laysHeights_12 {z : amZ} {post : amP} {G : amG} {I : amI} {L : amL} (hz : Go z cX12_laysHeights RX12 4 none 3 0 0 post) (hG : Lay G) {v1 : Int32} {v2 : Int32} (h : (((m_many L) ≤ v2) → Wx z 0 0 2 [(0, .ref ((zB z).size + 64)), (1, .int (v1 + 1))] [] G I L) ∧ ((¬ (m_many L) ≤ v2) → (mOk L) ∧ (s16 (m_dn L v2)) ∧ (((m_size (m_dn L v2)) = v1) → vp_in v2 16 ∧ Wx z 0 0 44 [(0, .ref ((zB z).size + 64)), (1, .int v1), (2, .int v2), (3, .int 0)] [] G (setI I 75 (upd (I 75) v2.toNatClampNeg (0 : Int32))) L) ∧ ((¬ (m_size (m_dn L v2)) = v1) → Wx z 0 0 12 [(0, .ref ((zB z).size + 64)), (1, .int v1), (2, .int (v2 + 1))] [] G I L))) : Wx z 0 0 12 [(0, .ref ((zB z).size + 64)), (1, .int v1), (2, .int v2)] [] G I L := by
  have hz1 := hz.1
  refine am_iload_n hz1 dX12_laysHeights_12 2 rfl rfl ?_
  refine am_aload_n hz1 dX12_laysHeights_13 0 rfl rfl ?_
  refine am_cVf hz cv_X12_78 [] [.int v2] (c_X12_many hG  ) (ln_64 hG) (lk_64 hG) rfl rfl rfl ⟨Nat.le_refl _, Nat.le_refl _⟩ (Nat.le_of_ble_eq_true rfl) dX12_laysHeights_14 ?_
  refine am_icmp_ge (tgt := 104) hz1 dX12_laysHeights_17 (by decide) (fun c1 => ?_) (fun c1 => ?_)
  · replace h := h.1 c1
    refine am_iinc (v := v1 + 1) (lv' := [(1, .int (v1 + 1)), (0, .ref ((zB z).size + 64)), (2, .int v2)]) hz1 dX12_laysHeights_104 1 rfl rfl rfl rfl ?_
    refine am_goto (tgt := 2) hz1 dX12_laysHeights_107 (by decide) ?_
    exact am_sub (lv' := [(0, .ref ((zB z).size + 64)), (1, .int (v1 + 1))]) [1, 0] rfl h
  · replace h := h.2 c1
    refine am_aload_n hz1 dX12_laysHeights_20 0 rfl rfl ?_
    refine am_iload_n hz1 dX12_laysHeights_21 2 rfl rfl ?_
    obtain ⟨g2, h⟩ := h
    refine am_cVf hz cv_X12_97 [.int v2] [] (c_X12_down hG v2 g2) (ln_64 hG) (lk_64 hG) rfl rfl rfl ⟨Nat.le_refl _, Nat.le_refl _⟩ (Nat.le_of_ble_eq_true rfl) dX12_laysHeights_22 ?_
    obtain ⟨g3, h⟩ := h
    refine am_cSf hz ct_X12_111 [.int (m_dn L v2)] [] (c_X12_size hG (m_dn L v2) g3) rfl rfl rfl ⟨Nat.le_refl _, Nat.le_refl _⟩ (Nat.le_of_ble_eq_true rfl) dX12_laysHeights_25 ?_
    refine am_iload_n hz1 dX12_laysHeights_28 1 rfl rfl ?_
    refine am_icmp_eq (tgt := 35) hz1 dX12_laysHeights_29 (by decide) (fun c4 => ?_) (fun c4 => ?_)
    · replace h := h.1 c4
      refine am_aload_n hz1 dX12_laysHeights_35 0 rfl rfl ?_
      refine am_getR hz1 fl_X12_44 (ln_64 hG) (lk_64 hG) (lr_64_19 hG) rfl dX12_laysHeights_36 ?_
      refine am_iload_n hz1 dX12_laysHeights_39 2 rfl rfl ?_
      refine am_iconst (v := 0) hz1 dX12_laysHeights_40 (by decide) ?_
      obtain ⟨g5, h⟩ := h
      refine am_iast hz1 (ln_75 hG) (lk_75 hG) (by rw [(ll_75 hG)]; exact g5) dX12_laysHeights_41 ?_
      refine am_iconst (v := 0) hz1 dX12_laysHeights_42 (by decide) ?_
      refine am_istore_n (lv' := [(3, .int 0), (0, .ref ((zB z).size + 64)), (1, .int v1), (2, .int v2)]) hz1 dX12_laysHeights_43 rfl rfl rfl ?_
      exact am_sub (lv' := [(0, .ref ((zB z).size + 64)), (1, .int v1), (2, .int v2), (3, .int 0)]) [1, 2, 3, 0] rfl h
    · replace h := h.2 c4
      refine am_goto (tgt := 98) hz1 dX12_laysHeights_32 (by decide) ?_
      refine am_iinc (v := v2 + 1) (lv' := [(2, .int (v2 + 1)), (0, .ref ((zB z).size + 64)), (1, .int v1)]) hz1 dX12_laysHeights_98 2 rfl rfl rfl rfl ?_
      refine am_goto (tgt := 12) hz1 dX12_laysHeights_101 (by decide) ?_
      exact am_sub (lv' := [(0, .ref ((zB z).size + 64)), (1, .int v1), (2, .int (v2 + 1))]) [1, 2, 0] rfl h
set_option maxRecDepth 100000 in
set_option maxHeartbeats 4000000 in
theorem b_X12_laysHeights_44 {z : amZ} {post : amP} {G : amG} {I : amI} {L : amL} (hz : Go z cX12_laysHeights RX12 4 none 3 0 0 post) (hG : Lay G) {v1 : Int32} {v2 : Int32} {v3 : Int32} (h : (((m_many L) ≤ v3) → Wx z 0 0 12 [(0, .ref ((zB z).size + 64)), (1, .int v1), (2, .int (v2 + 1))] [] G I L) ∧ ((¬ (m_many L) ≤ v3) → (vp_in v3 16) ∧ ((m_bl L v3 v2 = false) → Wx z 0 0 44 [(0, .ref ((zB z).size + 64)), (1, .int v1), (2, .int v2), (3, .int (v3 + 1))] [] G I L) ∧ ((m_bl L v3 v2 = true) → vp_in v3 16 ∧ vp_in v2 16 ∧ ((((I 75 v3.toNatClampNeg) + (1 : Int32)) ≤ (I 75 v2.toNatClampNeg)) → Wx z 0 0 44 [(0, .ref ((zB z).size + 64)), (1, .int v1), (2, .int v2), (3, .int (v3 + 1))] [] G I L) ∧ ((¬ ((I 75 v3.toNatClampNeg) + (1 : Int32)) ≤ (I 75 v2.toNatClampNeg)) → vp_in v3 16 ∧ vp_in v2 16 ∧ Wx z 0 0 44 [(0, .ref ((zB z).size + 64)), (1, .int v1), (2, .int v2), (3, .int (v3 + 1))] [] G (setI I 75 (upd (I 75) v2.toNatClampNeg ((I 75 v3.toNatClampNeg) + (1 : Int32)))) L)))) : Wx z 0 0 44 [(0, .ref ((zB z).size + 64)), (1, .int v1), (2, .int v2), (3, .int v3)] [] G I L := by
  have hz1 := hz.1
  refine am_iload_n hz1 dX12_laysHeights_44 3 rfl rfl ?_
  refine am_aload_n hz1 dX12_laysHeights_45 0 rfl rfl ?_
  refine am_cVf hz cv_X12_78 [] [.int v3] (c_X12_many hG  ) (ln_64 hG) (lk_64 hG) rfl rfl rfl ⟨Nat.le_refl _, Nat.le_refl _⟩ (Nat.le_of_ble_eq_true rfl) dX12_laysHeights_46 ?_
  refine am_icmp_ge (tgt := 98) hz1 dX12_laysHeights_49 (by decide) (fun c1 => ?_) (fun c1 => ?_)
  · replace h := h.1 c1
    refine am_iinc (v := v2 + 1) (lv' := [(2, .int (v2 + 1)), (0, .ref ((zB z).size + 64)), (1, .int v1), (3, .int v3)]) hz1 dX12_laysHeights_98 2 rfl rfl rfl rfl ?_
    refine am_goto (tgt := 12) hz1 dX12_laysHeights_101 (by decide) ?_
    exact am_sub (lv' := [(0, .ref ((zB z).size + 64)), (1, .int v1), (2, .int (v2 + 1))]) [1, 2, 0] rfl h
  · replace h := h.2 c1
    refine am_aload_n hz1 dX12_laysHeights_52 0 rfl rfl ?_
    refine am_iload_n hz1 dX12_laysHeights_53 3 rfl rfl ?_
    refine am_iload_n hz1 dX12_laysHeights_54 2 rfl rfl ?_
    obtain ⟨g2, h⟩ := h
    refine am_cVf hz cv_X12_104 [.int v3, .int v2] [] (c_X12_isBelow hG v3 v2 g2) (ln_64 hG) (lk_64 hG) rfl rfl rfl ⟨Nat.le_refl _, Nat.le_refl _⟩ (Nat.le_of_ble_eq_true rfl) dX12_laysHeights_55 ?_
    refine am_ifb_eq (tgt := 92) hz1 dX12_laysHeights_58 (by decide) (fun c3 => ?_) (fun c3 => ?_)
    · replace h := h.1 c3
      refine am_iinc (v := v3 + 1) (lv' := [(3, .int (v3 + 1)), (0, .ref ((zB z).size + 64)), (1, .int v1), (2, .int v2)]) hz1 dX12_laysHeights_92 3 rfl rfl rfl rfl ?_
      refine am_goto (tgt := 44) hz1 dX12_laysHeights_95 (by decide) ?_
      exact am_sub (lv' := [(0, .ref ((zB z).size + 64)), (1, .int v1), (2, .int v2), (3, .int (v3 + 1))]) [1, 2, 3, 0] rfl h
    · replace h := h.2 c3
      refine am_aload_n hz1 dX12_laysHeights_61 0 rfl rfl ?_
      refine am_getR hz1 fl_X12_44 (ln_64 hG) (lk_64 hG) (lr_64_19 hG) rfl dX12_laysHeights_62 ?_
      refine am_iload_n hz1 dX12_laysHeights_65 3 rfl rfl ?_
      obtain ⟨g4, h⟩ := h
      refine am_iald hz1 (ln_75 hG) (lk_75 hG) (by rw [(ll_75 hG)]; exact g4) dX12_laysHeights_66 ?_
      refine am_iconst (v := 1) hz1 dX12_laysHeights_67 (by decide) ?_
      refine am_iadd hz1 dX12_laysHeights_68 ?_
      refine am_aload_n hz1 dX12_laysHeights_69 0 rfl rfl ?_
      refine am_getR hz1 fl_X12_44 (ln_64 hG) (lk_64 hG) (lr_64_19 hG) rfl dX12_laysHeights_70 ?_
      refine am_iload_n hz1 dX12_laysHeights_73 2 rfl rfl ?_
      obtain ⟨g5, h⟩ := h
      refine am_iald hz1 (ln_75 hG) (lk_75 hG) (by rw [(ll_75 hG)]; exact g5) dX12_laysHeights_74 ?_
      refine am_icmp_le (tgt := 92) hz1 dX12_laysHeights_75 (by decide) (fun c6 => ?_) (fun c6 => ?_)
      · replace h := h.1 c6
        refine am_iinc (v := v3 + 1) (lv' := [(3, .int (v3 + 1)), (0, .ref ((zB z).size + 64)), (1, .int v1), (2, .int v2)]) hz1 dX12_laysHeights_92 3 rfl rfl rfl rfl ?_
        refine am_goto (tgt := 44) hz1 dX12_laysHeights_95 (by decide) ?_
        exact am_sub (lv' := [(0, .ref ((zB z).size + 64)), (1, .int v1), (2, .int v2), (3, .int (v3 + 1))]) [1, 2, 3, 0] rfl h
      · replace h := h.2 c6
        refine am_aload_n hz1 dX12_laysHeights_78 0 rfl rfl ?_
        refine am_getR hz1 fl_X12_44 (ln_64 hG) (lk_64 hG) (lr_64_19 hG) rfl dX12_laysHeights_79 ?_
        refine am_iload_n hz1 dX12_laysHeights_82 2 rfl rfl ?_
        refine am_aload_n hz1 dX12_laysHeights_83 0 rfl rfl ?_
        refine am_getR hz1 fl_X12_44 (ln_64 hG) (lk_64 hG) (lr_64_19 hG) rfl dX12_laysHeights_84 ?_
        refine am_iload_n hz1 dX12_laysHeights_87 3 rfl rfl ?_
        obtain ⟨g7, h⟩ := h
        refine am_iald hz1 (ln_75 hG) (lk_75 hG) (by rw [(ll_75 hG)]; exact g7) dX12_laysHeights_88 ?_
        refine am_iconst (v := 1) hz1 dX12_laysHeights_89 (by decide) ?_
        refine am_iadd hz1 dX12_laysHeights_90 ?_
        obtain ⟨g8, h⟩ := h
        refine am_iast hz1 (ln_75 hG) (lk_75 hG) (by rw [(ll_75 hG)]; exact g8) dX12_laysHeights_91 ?_
        refine am_iinc (v := v3 + 1) (lv' := [(3, .int (v3 + 1)), (0, .ref ((zB z).size + 64)), (1, .int v1), (2, .int v2)]) hz1 dX12_laysHeights_92 3 rfl rfl rfl rfl ?_
        refine am_goto (tgt := 44) hz1 dX12_laysHeights_95 (by decide) ?_
        exact am_sub (lv' := [(0, .ref ((zB z).size + 64)), (1, .int v1), (2, .int v2), (3, .int (v3 + 1))]) [1, 2, 3, 0] rfl h
set_option maxRecDepth 100000 in
set_option maxHeartbeats 4000000 in
theorem c_X12_laysHeights {l : Launch} {D : va_G} {B : Heap} {G : amG} {I : amI} {L : amL}  (hG : Lay G)   {n : Nat} {A : Nat → Int32} (hM : MO L n A) : Mx l D B yX12_laysHeights cX12_laysHeights 4 none 3 0 0 [.ref (B.size + 64)] G I L (fun r G1 I1 L1 => r = none ∧ G1 = G ∧ L1 = L ∧ ∃ f : Nat → Int32, I1 = setI I 75 f ∧ ∀ x, x < n → f x = ht n A x) := by
  refine Mx.of (by decide) rfl rfl (fun z e1 e2 e3 hz => ?_)
  subst e1; subst e2; subst e3
  refine b_X12_laysHeights_0 hz hG ?_
  have h16 := hM.2.1
  have hP := hM.2.2.1
  have hdn : ∀ b, b < n → m_size (m_dn L (nI b)) = nI (key n A b + 1) := fun b hb => by rw [m_size, hM.dn hb, dn_ct hP h16 hb]
  have outer : ∀ f : Nat → Int32, (∀ x, x < n → key n A x + 1 < 1 + 0 → f x = ht n A x) → Wx z 0 0 2 [(0, .ref ((zB z).size + 64)), (1, .int (nI (1 + 0)))] [] G (setI I 75 f) L := by
    refine for_up (P := fun k => ∀ f : Nat → Int32, (∀ x, x < n → key n A x + 1 < 1 + k → f x = ht n A x) → Wx z 0 0 2 [(0, .ref ((zB z).size + 64)), (1, .int (nI (1 + k)))] [] G (setI I 75 f) L) (n := n) ?_ ?_ (Nat.zero_le _)
    · intro f hf
      refine b_X12_laysHeights_2 hz hG ⟨fun _ => ⟨rfl, rfl, rfl, f, rfl, fun x hx => hf x hx (by have := key_lt hP hx; omega)⟩, fun h => absurd ?_ h⟩
      rw [Nat.add_comm]
      exact mm_lt' hM
    · intro k hk ih f hf
      refine b_X12_laysHeights_2 hz hG ⟨fun h => absurd h (mm_lt hM (by omega)), fun _ => ?_⟩
      have rows : ∀ f : Nat → Int32, (∀ x, x < n → (key n A x + 1 < 1 + k ∨ key n A x + 1 = 1 + k ∧ x < 0) → f x = ht n A x) → Wx z 0 0 12 [(0, .ref ((zB z).size + 64)), (1, .int (nI (1 + k))), (2, .int (nI 0))] [] G (setI I 75 f) L := by
        refine for_up (P := fun b => ∀ f : Nat → Int32, (∀ x, x < n → (key n A x + 1 < 1 + k ∨ key n A x + 1 = 1 + k ∧ x < b) → f x = ht n A x) → Wx z 0 0 12 [(0, .ref ((zB z).size + 64)), (1, .int (nI (1 + k))), (2, .int (nI b))] [] G (setI I 75 f) L) (n := n) ?_ ?_ (Nat.zero_le _)
        · intro f hf
          refine b_X12_laysHeights_12 hz hG ⟨fun _ => ?_, fun h => absurd (mm_le hM) h⟩
          rw [nI_1]
          exact ih f (fun x hx hk2 => hf x hx (by omega))
        · intro b hb bh f hf
          refine b_X12_laysHeights_12 hz hG ⟨fun h => absurd h (mm_ge hM hb), fun _ => ⟨⟨n, A, hM⟩, m_dn_16 ⟨n, A, hM⟩, fun h => ⟨in16 h16 hb, ?_⟩, fun h => ?_⟩⟩
          · rw [hdn b hb, nI_eq (by have := key_lt hP hb; omega) (by omega)] at h
            have inner := for_up (P := fun a => Wx z 0 0 44 [(0, .ref ((zB z).size + 64)), (1, .int (nI (1 + k))), (2, .int (nI b)), (3, .int (nI a))] [] G (setI I 75 (upd f b (maxS (ht n A) (bn n A b) a))) L) (n := n) ?_ ?_ (Nat.zero_le _)
            · rw [setI_ss, setI_s, cl_nI (by omega)]
              exact inner
            · refine b_X12_laysHeights_44 hz hG ⟨fun _ => ?_, fun h => absurd (mm_le hM) h⟩
              rw [nI_1]
              refine bh _ (fun x hx hk2 => ?_)
              by_cases e : x = b
              · subst e
                rw [upd_s, ht_is hP h16 hx]
              · rw [upd_n e]
                exact hf x hx (by omega)
            · intro a ha ah
              have hbb : bt (bn n A b) a = bt (A a) b := by rw [bn_bt (by omega) (by omega), decide_eq_true ha, Bool.true_and]
              refine b_X12_laysHeights_44 hz hG ⟨fun h => absurd h (mm_ge hM ha), fun _ => ⟨in16 h16 ha, fun g => ?_, fun g => ⟨in16 h16 ha, in16 h16 hb, ?_⟩⟩⟩
              · rw [hM.bl ha hb, ← hbb] at g
                rw [maxS, if_neg (by rw [g]; decide)] at ah
                rw [nI_1]
                exact ah
              · rw [hM.bl ha hb] at g
                have hab : a ≠ b := fun e => by subst e; rw [hP.2.1 a ha] at g; cases g
                have hka := key_up hP ha hb g
                rw [← hbb] at g
                rw [maxS, if_pos g] at ah
                rw [setI_s, cl_nI (n := a) (by omega), cl_nI (n := b) (by omega), upd_s, upd_n hab, hf a ha (by omega), setI_ss, nI_1]
                refine ⟨fun q => ?_, fun q => ⟨in16 h16 ha, in16 h16 hb, ?_⟩⟩
                · rw [if_neg (by rw [Int32.not_lt]; exact q)] at ah
                  exact ah
                · rw [if_pos (by rw [← Int32.not_le]; exact q)] at ah
                  rw [upd_upd]
                  exact ah
          · rw [hdn b hb, nI_eq (by have := key_lt hP hb; omega) (by omega)] at h
            rw [nI_1]
            refine bh f (fun x hx hk2 => hf x hx ?_)
            by_cases e : x = b
            · subst e; omega
            · omega
      exact rows f (fun x hx hk2 => hf x hx (by omega))
  have := outer (I 75) (fun x hx hk => absurd hk (by omega))
  rw [setI_id] at this
  exact this
set_option maxRecDepth 100000 in
set_option maxHeartbeats 4000000 in
theorem b_X12_greatestHeight_0 {z : amZ} {post : amP} {G : amG} {I : amI} {L : amL} (hz : Go z cX12_greatestHeight RX12 3 (some .int) 4 0 0 post) (hG : Lay G)  (h : ∃ (dq1 : Nat) (postq1 : amP), Nat.ble (dq1 + 1) 4 = true ∧ Mx (zL z) (zD z) (zB z) yX12_laysHeights cX12_laysHeights 4 none dq1 0 0 [.ref ((zB z).size + 64)] G I L postq1 ∧ ∀ (roq1 : Option Value) (Gq1 : amG) (Iq1 : amI) (Lq1 : amL), postq1 roq1 Gq1 Iq1 Lq1 → roq1 = none ∧ Lay Gq1 ∧ Wx z 0 0 8 [(0, .ref ((zB z).size + 64)), (1, .int 0), (2, .int 0)] [] Gq1 Iq1 Lq1) : Wx z 0 0 0 [(0, .ref ((zB z).size + 64))] [] G I L := by
  have hz1 := hz.1
  refine am_aload_n hz1 dX12_greatestHeight_0 0 rfl rfl ?_
  obtain ⟨dq1, postq1, hdq1, hMq1, h⟩ := h
  refine am_callV hz1 cv_X12_338 [] [] hMq1 (ln_64 hG) (lk_64 hG) rfl rfl (hz.fr hdq1) (hz.lo hdq1) (by rw [hz.2.1]; exact ⟨Nat.le_refl _, Nat.le_refl _⟩) (Nat.le_of_ble_eq_true rfl) dX12_greatestHeight_1 (fun roq1 Gq1 Iq1 Lq1 hpq1 => ?_)
  obtain ⟨rfl, hGq1, h⟩ := h roq1 Gq1 Iq1 Lq1 hpq1
  refine am_iconst (v := 0) hz1 dX12_greatestHeight_4 (by decide) ?_
  refine am_istore_n (lv' := [(1, .int 0), (0, .ref ((zB z).size + 64))]) hz1 dX12_greatestHeight_5 rfl rfl rfl ?_
  refine am_iconst (v := 0) hz1 dX12_greatestHeight_6 (by decide) ?_
  refine am_istore_n (lv' := [(2, .int 0), (1, .int 0), (0, .ref ((zB z).size + 64))]) hz1 dX12_greatestHeight_7 rfl rfl rfl ?_
  exact am_sub (lv' := [(0, .ref ((zB z).size + 64)), (1, .int 0), (2, .int 0)]) [2, 1, 0] rfl h
set_option maxRecDepth 100000 in
set_option maxHeartbeats 4000000 in
theorem b_X12_greatestHeight_8 {z : amZ} {post : amP} {G : amG} {I : amI} {L : amL} (hz : Go z cX12_greatestHeight RX12 3 (some .int) 4 0 0 post) (hG : Lay G) {v1 : Int32} {v2 : Int32} (h : (((m_many L) ≤ v2) → post (some (.int v1)) G I L) ∧ ((¬ (m_many L) ≤ v2) → vp_in v2 16 ∧ (((I 75 v2.toNatClampNeg) ≤ v1) → Wx z 0 0 8 [(0, .ref ((zB z).size + 64)), (1, .int v1), (2, .int (v2 + 1))] [] G I L) ∧ ((¬ (I 75 v2.toNatClampNeg) ≤ v1) → vp_in v2 16 ∧ Wx z 0 0 8 [(0, .ref ((zB z).size + 64)), (1, .int (I 75 v2.toNatClampNeg)), (2, .int (v2 + 1))] [] G I L))) : Wx z 0 0 8 [(0, .ref ((zB z).size + 64)), (1, .int v1), (2, .int v2)] [] G I L := by
  have hz1 := hz.1
  refine am_iload_n hz1 dX12_greatestHeight_8 2 rfl rfl ?_
  refine am_aload_n hz1 dX12_greatestHeight_9 0 rfl rfl ?_
  refine am_cVf hz cv_X12_78 [] [.int v2] (c_X12_many hG  ) (ln_64 hG) (lk_64 hG) rfl rfl rfl ⟨Nat.le_refl _, Nat.le_refl _⟩ (Nat.le_of_ble_eq_true rfl) dX12_greatestHeight_10 ?_
  refine am_icmp_ge (tgt := 43) hz1 dX12_greatestHeight_13 (by decide) (fun c1 => ?_) (fun c1 => ?_)
  · replace h := h.1 c1
    refine am_iload_n hz1 dX12_greatestHeight_43 1 rfl rfl ?_
    exact am_ireturn hz dX12_greatestHeight_44 h
  · replace h := h.2 c1
    refine am_aload_n hz1 dX12_greatestHeight_16 0 rfl rfl ?_
    refine am_getR hz1 fl_X12_44 (ln_64 hG) (lk_64 hG) (lr_64_19 hG) rfl dX12_greatestHeight_17 ?_
    refine am_iload_n hz1 dX12_greatestHeight_20 2 rfl rfl ?_
    obtain ⟨g2, h⟩ := h
    refine am_iald hz1 (ln_75 hG) (lk_75 hG) (by rw [(ll_75 hG)]; exact g2) dX12_greatestHeight_21 ?_
    refine am_iload_n hz1 dX12_greatestHeight_22 1 rfl rfl ?_
    refine am_icmp_le (tgt := 35) hz1 dX12_greatestHeight_23 (by decide) (fun c3 => ?_) (fun c3 => ?_)
    · replace h := h.1 c3
      refine am_iload_n hz1 dX12_greatestHeight_35 1 rfl rfl ?_
      refine am_istore_n (lv' := [(1, .int v1), (0, .ref ((zB z).size + 64)), (2, .int v2)]) hz1 dX12_greatestHeight_36 rfl rfl rfl ?_
      refine am_iinc (v := v2 + 1) (lv' := [(2, .int (v2 + 1)), (1, .int v1), (0, .ref ((zB z).size + 64))]) hz1 dX12_greatestHeight_37 2 rfl rfl rfl rfl ?_
      refine am_goto (tgt := 8) hz1 dX12_greatestHeight_40 (by decide) ?_
      exact am_sub (lv' := [(0, .ref ((zB z).size + 64)), (1, .int v1), (2, .int (v2 + 1))]) [2, 1, 0] rfl h
    · replace h := h.2 c3
      refine am_aload_n hz1 dX12_greatestHeight_26 0 rfl rfl ?_
      refine am_getR hz1 fl_X12_44 (ln_64 hG) (lk_64 hG) (lr_64_19 hG) rfl dX12_greatestHeight_27 ?_
      refine am_iload_n hz1 dX12_greatestHeight_30 2 rfl rfl ?_
      obtain ⟨g4, h⟩ := h
      refine am_iald hz1 (ln_75 hG) (lk_75 hG) (by rw [(ll_75 hG)]; exact g4) dX12_greatestHeight_31 ?_
      refine am_goto (tgt := 36) hz1 dX12_greatestHeight_32 (by decide) ?_
      refine am_istore_n (lv' := [(1, .int (I 75 v2.toNatClampNeg)), (0, .ref ((zB z).size + 64)), (2, .int v2)]) hz1 dX12_greatestHeight_36 rfl rfl rfl ?_
      refine am_iinc (v := v2 + 1) (lv' := [(2, .int (v2 + 1)), (1, .int (I 75 v2.toNatClampNeg)), (0, .ref ((zB z).size + 64))]) hz1 dX12_greatestHeight_37 2 rfl rfl rfl rfl ?_
      refine am_goto (tgt := 8) hz1 dX12_greatestHeight_40 (by decide) ?_
      exact am_sub (lv' := [(0, .ref ((zB z).size + 64)), (1, .int (I 75 v2.toNatClampNeg)), (2, .int (v2 + 1))]) [2, 1, 0] rfl h
set_option maxRecDepth 100000 in
set_option maxHeartbeats 4000000 in
theorem c_X12_greatestHeight {l : Launch} {D : va_G} {B : Heap} {G : amG} {I : amI} {L : amL}  (hG : Lay G)   {n : Nat} {A : Nat → Int32} (hM : MO L n A) : Mx l D B yX12_greatestHeight cX12_greatestHeight 3 (some .int) 4 0 0 [.ref (B.size + 64)] G I L (fun r G1 I1 L1 => r = some (.int (maxI (ht n A) n)) ∧ G1 = G ∧ L1 = L ∧ ∃ f : Nat → Int32, I1 = setI I 75 f ∧ ∀ x, x < n → f x = ht n A x) := by
  refine Mx.of (by decide) rfl rfl (fun z e1 e2 e3 hz => ?_)
  subst e1; subst e2; subst e3
  refine b_X12_greatestHeight_0 hz hG ?_
  have h16 := hM.2.1
  refine ⟨3, _, rfl, c_X12_laysHeights hG hM, fun ro G2 I2 L2 ⟨e1, e2, e3, f, e4, e5⟩ => ⟨e1, by rw [e2]; exact hG, ?_⟩⟩
  rw [e2, e3, e4]
  refine for_up (P := fun i => Wx z 0 0 8 [(0, .ref ((zB z).size + 64)), (1, .int (maxI (ht n A) i)), (2, .int (nI i))] [] G (setI I 75 f) L) (n := n) ?_ ?_ (Nat.zero_le _)
  · exact b_X12_greatestHeight_8 hz hG ⟨fun _ => ⟨rfl, rfl, rfl, f, rfl, e5⟩, fun h => absurd (mm_le hM) h⟩
  · intro i hi ih
    refine b_X12_greatestHeight_8 hz hG ⟨fun h => absurd h (mm_ge hM hi), fun _ => ?_⟩
    rw [setI_s, cl_nI (by omega), e5 i hi, nI_1]
    refine ⟨in16 h16 hi, fun q => ?_, fun q => ⟨in16 h16 hi, ?_⟩⟩
    · rw [maxI, if_neg (by rw [Int32.not_lt]; exact q)] at ih
      exact ih
    · rw [maxI, if_pos (by rw [← Int32.not_le]; exact q)] at ih
      exact ih
def grM1 (n : Nat) (A : Nat → Int32) (a : Nat) : Bool := scan (fun b => cv n A a b && decide (¬ ht n A b = ht n A a + 1)) (fun _ => true) false n 0
def grM (n : Nat) (A : Nat → Int32) : Bool := scan (grM1 n A) (fun _ => false) true n 0
set_option maxRecDepth 100000 in
set_option maxHeartbeats 4000000 in
theorem b_X12_isGraded_0 {z : amZ} {post : amP} {G : amG} {I : amI} {L : amL} (hz : Go z cX12_isGraded RX12 3 (some .boolean) 5 0 0 post) (hG : Lay G)  (h : ∃ (dq1 : Nat) (postq1 : amP), Nat.ble (dq1 + 1) 5 = true ∧ Mx (zL z) (zD z) (zB z) yX12_laysHeights cX12_laysHeights 4 none dq1 0 0 [.ref ((zB z).size + 64)] G I L postq1 ∧ ∀ (roq1 : Option Value) (Gq1 : amG) (Iq1 : amI) (Lq1 : amL), postq1 roq1 Gq1 Iq1 Lq1 → roq1 = none ∧ Lay Gq1 ∧ Wx z 0 0 6 [(0, .ref ((zB z).size + 64)), (1, .int 0)] [] Gq1 Iq1 Lq1) : Wx z 0 0 0 [(0, .ref ((zB z).size + 64))] [] G I L := by
  have hz1 := hz.1
  refine am_aload_n hz1 dX12_isGraded_0 0 rfl rfl ?_
  obtain ⟨dq1, postq1, hdq1, hMq1, h⟩ := h
  refine am_callV hz1 cv_X12_338 [] [] hMq1 (ln_64 hG) (lk_64 hG) rfl rfl (hz.fr hdq1) (hz.lo hdq1) (by rw [hz.2.1]; exact ⟨Nat.le_refl _, Nat.le_refl _⟩) (Nat.le_of_ble_eq_true rfl) dX12_isGraded_1 (fun roq1 Gq1 Iq1 Lq1 hpq1 => ?_)
  obtain ⟨rfl, hGq1, h⟩ := h roq1 Gq1 Iq1 Lq1 hpq1
  refine am_iconst (v := 0) hz1 dX12_isGraded_4 (by decide) ?_
  refine am_istore_n (lv' := [(1, .int 0), (0, .ref ((zB z).size + 64))]) hz1 dX12_isGraded_5 rfl rfl rfl ?_
  exact am_sub (lv' := [(0, .ref ((zB z).size + 64)), (1, .int 0)]) [1, 0] rfl h
set_option maxRecDepth 100000 in
set_option maxHeartbeats 4000000 in
theorem b_X12_isGraded_6 {z : amZ} {post : amP} {G : amG} {I : amI} {L : amL} (hz : Go z cX12_isGraded RX12 3 (some .boolean) 5 0 0 post) (hG : Lay G) {v1 : Int32} (h : (((m_many L) ≤ v1) → post (some (.int 1)) G I L) ∧ ((¬ (m_many L) ≤ v1) → Wx z 0 0 16 [(0, .ref ((zB z).size + 64)), (1, .int v1), (2, .int 0)] [] G I L)) : Wx z 0 0 6 [(0, .ref ((zB z).size + 64)), (1, .int v1)] [] G I L := by
  have hz1 := hz.1
  refine am_iload_n hz1 dX12_isGraded_6 1 rfl rfl ?_
  refine am_aload_n hz1 dX12_isGraded_7 0 rfl rfl ?_
  refine am_cVf hz cv_X12_78 [] [.int v1] (c_X12_many hG  ) (ln_64 hG) (lk_64 hG) rfl rfl rfl ⟨Nat.le_refl _, Nat.le_refl _⟩ (Nat.le_of_ble_eq_true rfl) dX12_isGraded_8 ?_
  refine am_icmp_ge (tgt := 64) hz1 dX12_isGraded_11 (by decide) (fun c1 => ?_) (fun c1 => ?_)
  · replace h := h.1 c1
    refine am_iconst (v := 1) hz1 dX12_isGraded_64 (by decide) ?_
    exact am_zreturn hz (by decide) dX12_isGraded_65 h
  · replace h := h.2 c1
    refine am_iconst (v := 0) hz1 dX12_isGraded_14 (by decide) ?_
    refine am_istore_n (lv' := [(2, .int 0), (0, .ref ((zB z).size + 64)), (1, .int v1)]) hz1 dX12_isGraded_15 rfl rfl rfl ?_
    exact am_sub (lv' := [(0, .ref ((zB z).size + 64)), (1, .int v1), (2, .int 0)]) [1, 2, 0] rfl h
set_option maxRecDepth 100000 in
set_option maxHeartbeats 4000000 in
theorem b_X12_isGraded_16 {z : amZ} {post : amP} {G : amG} {I : amI} {L : amL} (hz : Go z cX12_isGraded RX12 3 (some .boolean) 5 0 0 post) (hG : Lay G) {v1 : Int32} {v2 : Int32} (h : (((m_many L) ≤ v2) → Wx z 0 0 6 [(0, .ref ((zB z).size + 64)), (1, .int (v1 + 1))] [] G I L) ∧ ((¬ (m_many L) ≤ v2) → (mOk L) ∧ (vp_in v1 16) ∧ ((m_cov L v1 v2 = false) → Wx z 0 0 16 [(0, .ref ((zB z).size + 64)), (1, .int v1), (2, .int (v2 + 1))] [] G I L) ∧ ((m_cov L v1 v2 = true) → vp_in v2 16 ∧ vp_in v1 16 ∧ (((I 75 v2.toNatClampNeg) = ((I 75 v1.toNatClampNeg) + (1 : Int32))) → Wx z 0 0 16 [(0, .ref ((zB z).size + 64)), (1, .int v1), (2, .int (v2 + 1))] [] G I L) ∧ ((¬ (I 75 v2.toNatClampNeg) = ((I 75 v1.toNatClampNeg) + (1 : Int32))) → post (some (.int 0)) G I L)))) : Wx z 0 0 16 [(0, .ref ((zB z).size + 64)), (1, .int v1), (2, .int v2)] [] G I L := by
  have hz1 := hz.1
  refine am_iload_n hz1 dX12_isGraded_16 2 rfl rfl ?_
  refine am_aload_n hz1 dX12_isGraded_17 0 rfl rfl ?_
  refine am_cVf hz cv_X12_78 [] [.int v2] (c_X12_many hG  ) (ln_64 hG) (lk_64 hG) rfl rfl rfl ⟨Nat.le_refl _, Nat.le_refl _⟩ (Nat.le_of_ble_eq_true rfl) dX12_isGraded_18 ?_
  refine am_icmp_ge (tgt := 58) hz1 dX12_isGraded_21 (by decide) (fun c1 => ?_) (fun c1 => ?_)
  · replace h := h.1 c1
    refine am_iinc (v := v1 + 1) (lv' := [(1, .int (v1 + 1)), (0, .ref ((zB z).size + 64)), (2, .int v2)]) hz1 dX12_isGraded_58 1 rfl rfl rfl rfl ?_
    refine am_goto (tgt := 6) hz1 dX12_isGraded_61 (by decide) ?_
    exact am_sub (lv' := [(0, .ref ((zB z).size + 64)), (1, .int (v1 + 1))]) [1, 0] rfl h
  · replace h := h.2 c1
    refine am_aload_n hz1 dX12_isGraded_24 0 rfl rfl ?_
    refine am_iload_n hz1 dX12_isGraded_25 1 rfl rfl ?_
    refine am_iload_n hz1 dX12_isGraded_26 2 rfl rfl ?_
    obtain ⟨g2, h⟩ := h
    obtain ⟨g3, h⟩ := h
    refine am_cVf hz cv_X12_239 [.int v1, .int v2] [] (c_X12_isCover hG v1 v2 g2 g3) (ln_64 hG) (lk_64 hG) rfl rfl rfl ⟨Nat.le_refl _, Nat.le_refl _⟩ (Nat.le_of_ble_eq_true rfl) dX12_isGraded_27 ?_
    refine am_ifb_eq (tgt := 52) hz1 dX12_isGraded_30 (by decide) (fun c4 => ?_) (fun c4 => ?_)
    · replace h := h.1 c4
      refine am_iinc (v := v2 + 1) (lv' := [(2, .int (v2 + 1)), (0, .ref ((zB z).size + 64)), (1, .int v1)]) hz1 dX12_isGraded_52 2 rfl rfl rfl rfl ?_
      refine am_goto (tgt := 16) hz1 dX12_isGraded_55 (by decide) ?_
      exact am_sub (lv' := [(0, .ref ((zB z).size + 64)), (1, .int v1), (2, .int (v2 + 1))]) [1, 2, 0] rfl h
    · replace h := h.2 c4
      refine am_aload_n hz1 dX12_isGraded_33 0 rfl rfl ?_
      refine am_getR hz1 fl_X12_44 (ln_64 hG) (lk_64 hG) (lr_64_19 hG) rfl dX12_isGraded_34 ?_
      refine am_iload_n hz1 dX12_isGraded_37 2 rfl rfl ?_
      obtain ⟨g5, h⟩ := h
      refine am_iald hz1 (ln_75 hG) (lk_75 hG) (by rw [(ll_75 hG)]; exact g5) dX12_isGraded_38 ?_
      refine am_aload_n hz1 dX12_isGraded_39 0 rfl rfl ?_
      refine am_getR hz1 fl_X12_44 (ln_64 hG) (lk_64 hG) (lr_64_19 hG) rfl dX12_isGraded_40 ?_
      refine am_iload_n hz1 dX12_isGraded_43 1 rfl rfl ?_
      obtain ⟨g6, h⟩ := h
      refine am_iald hz1 (ln_75 hG) (lk_75 hG) (by rw [(ll_75 hG)]; exact g6) dX12_isGraded_44 ?_
      refine am_iconst (v := 1) hz1 dX12_isGraded_45 (by decide) ?_
      refine am_iadd hz1 dX12_isGraded_46 ?_
      refine am_icmp_eq (tgt := 52) hz1 dX12_isGraded_47 (by decide) (fun c7 => ?_) (fun c7 => ?_)
      · replace h := h.1 c7
        refine am_iinc (v := v2 + 1) (lv' := [(2, .int (v2 + 1)), (0, .ref ((zB z).size + 64)), (1, .int v1)]) hz1 dX12_isGraded_52 2 rfl rfl rfl rfl ?_
        refine am_goto (tgt := 16) hz1 dX12_isGraded_55 (by decide) ?_
        exact am_sub (lv' := [(0, .ref ((zB z).size + 64)), (1, .int v1), (2, .int (v2 + 1))]) [1, 2, 0] rfl h
      · replace h := h.2 c7
        refine am_iconst (v := 0) hz1 dX12_isGraded_50 (by decide) ?_
        exact am_zreturn hz (by decide) dX12_isGraded_51 h
set_option maxRecDepth 100000 in
set_option maxHeartbeats 4000000 in
theorem c_X12_isGraded {l : Launch} {D : va_G} {B : Heap} {G : amG} {I : amI} {L : amL}  (hG : Lay G)   {n : Nat} {A : Nat → Int32} (hM : MO L n A) : Mx l D B yX12_isGraded cX12_isGraded 3 (some .boolean) 5 0 0 [.ref (B.size + 64)] G I L (fun r G1 I1 L1 => r = some (.int (bI (grM n A))) ∧ G1 = G ∧ L1 = L ∧ ∃ f : Nat → Int32, I1 = setI I 75 f ∧ ∀ x, x < n → f x = ht n A x) := by
  refine Mx.of (by decide) rfl rfl (fun z e1 e2 e3 hz => ?_)
  subst e1; subst e2; subst e3
  refine b_X12_isGraded_0 hz hG ?_
  have h16 := hM.2.1
  refine ⟨3, _, rfl, c_X12_laysHeights hG hM, fun ro G2 I2 L2 ⟨e1, e2, e3, f, e4, e5⟩ => ⟨e1, by rw [e2]; exact hG, ?_⟩⟩
  rw [e2, e3, e4]
  refine for_up (P := fun i => scan (grM1 n A) (fun _ => false) true (n - i) i = grM n A → Wx z 0 0 6 [(0, .ref ((zB z).size + 64)), (1, .int (nI i))] [] G (setI I 75 f) L) (n := n) ?_ ?_ (Nat.zero_le _) (by rw [Nat.sub_zero, grM])
  · intro e
    rw [scan_0] at e
    exact b_X12_isGraded_6 hz hG ⟨fun _ => ⟨by rw [← e]; rfl, rfl, rfl, f, rfl, e5⟩, fun h => absurd (mm_le hM) h⟩
  · intro i hi ih e
    rw [scan_s hi] at e
    refine b_X12_isGraded_6 hz hG ⟨fun h => absurd h (mm_ge hM hi), fun _ => ?_⟩
    refine for_up (P := fun j => scan (fun b => cv n A i b && decide (¬ ht n A b = ht n A i + 1)) (fun _ => true) false (n - j) j = grM1 n A i → Wx z 0 0 16 [(0, .ref ((zB z).size + 64)), (1, .int (nI i)), (2, .int (nI j))] [] G (setI I 75 f) L) (n := n) ?_ ?_ (Nat.zero_le _) (by rw [Nat.sub_zero, grM1])
    · intro e6
      rw [scan_0] at e6
      refine b_X12_isGraded_16 hz hG ⟨fun _ => ?_, fun h => absurd (mm_le hM) h⟩
      rw [if_neg (by rw [← e6]; decide)] at e
      rw [nI_1]
      exact ih e
    · intro j hj jh e6
      rw [scan_s hj] at e6
      refine b_X12_isGraded_16 hz hG ⟨fun h => absurd h (mm_ge hM hj), fun _ => ⟨⟨n, A, hM⟩, in16 h16 hi, fun g => ?_, fun g => ⟨in16 h16 hj, in16 h16 hi, ?_⟩⟩⟩
      · rw [hM.cov hi hj] at g
        rw [if_neg (by rw [g]; simp)] at e6
        rw [nI_1]
        exact jh e6
      · rw [hM.cov hi hj] at g
        rw [setI_s, cl_nI (n := i) (by omega), cl_nI (n := j) (by omega), e5 i hi, e5 j hj, nI_1]
        refine ⟨fun q => ?_, fun q => ⟨?_, rfl, rfl, f, rfl, e5⟩⟩
        · rw [if_neg (by rw [g, decide_eq_false (not_not_intro q)]; decide)] at e6
          exact jh e6
        · rw [if_pos (by rw [g, decide_eq_true q]; rfl)] at e6
          rw [if_pos e6.symm] at e
          rw [← e]; rfl
def m_stV (L : amL) (v : Int32) (b : Nat) : Int64 := sumC (fun a => if v = 0 then m_bl L (nI a) (nI b) else m_cov L (nI a) (nI b)) (L 76) (mN L)
def m_stp (L : amL) (v : Int32) : amL := setL (setL L 77 (wr (L 77) 0 (mN L) (m_stV L v))) 76 (wr (L 76) 0 (mN L) (m_stV L v))
theorem updL_id {f : Nat → Int64} {k : Nat} : vp_updL f k (f k) = f := by
  funext j
  unfold vp_updL
  by_cases h : j = k
  · rw [if_pos h, h]
  · rw [if_neg h]
theorem updL_u {f : Nat → Int64} {k : Nat} {x y : Int64} : vp_updL (vp_updL f k x) k y = vp_updL f k y := by
  funext j
  unfold vp_updL
  by_cases h : j = k
  · rw [if_pos h, if_pos h]
  · rw [if_neg h, if_neg h, if_neg h]
set_option maxRecDepth 100000 in
set_option maxHeartbeats 4000000 in
theorem b_X12_stepsOn_0 {z : amZ} {post : amP} {G : amG} {I : amI} {L : amL} (hz : Go z cX12_stepsOn RX12 4 none 5 0 0 post) (hG : Lay G) {v1 : Int32} (h : Wx z 0 0 2 [(0, .ref ((zB z).size + 64)), (1, .int v1), (2, .int 0)] [] G I L) : Wx z 0 0 0 [(0, .ref ((zB z).size + 64)), (1, .int v1)] [] G I L := by
  have hz1 := hz.1
  refine am_iconst (v := 0) hz1 dX12_stepsOn_0 (by decide) ?_
  refine am_istore_n (lv' := [(2, .int 0), (0, .ref ((zB z).size + 64)), (1, .int v1)]) hz1 dX12_stepsOn_1 rfl rfl rfl ?_
  exact am_sub (lv' := [(0, .ref ((zB z).size + 64)), (1, .int v1), (2, .int 0)]) [1, 2, 0] rfl h
set_option maxRecDepth 100000 in
set_option maxHeartbeats 4000000 in
theorem b_X12_stepsOn_2 {z : amZ} {post : amP} {G : amG} {I : amI} {L : amL} (hz : Go z cX12_stepsOn RX12 4 none 5 0 0 post) (hG : Lay G) {v1 : Int32} {v2 : Int32} (h : (((m_many L) ≤ v2) → Wx z 0 0 81 [(0, .ref ((zB z).size + 64)), (2, .int 0)] [] G I L) ∧ ((¬ (m_many L) ≤ v2) → vp_in v2 16 ∧ Wx z 0 0 19 [(0, .ref ((zB z).size + 64)), (1, .int v1), (2, .int v2), (3, .int 0)] [] G I (setL L 77 (vp_updL (L 77) v2.toNatClampNeg (0 : Int64))))) : Wx z 0 0 2 [(0, .ref ((zB z).size + 64)), (1, .int v1), (2, .int v2)] [] G I L := by
  have hz1 := hz.1
  refine am_iload_n hz1 dX12_stepsOn_2 2 rfl rfl ?_
  refine am_aload_n hz1 dX12_stepsOn_3 0 rfl rfl ?_
  refine am_cVf hz cv_X12_78 [] [.int v2] (c_X12_many hG  ) (ln_64 hG) (lk_64 hG) rfl rfl rfl ⟨Nat.le_refl _, Nat.le_refl _⟩ (Nat.le_of_ble_eq_true rfl) dX12_stepsOn_4 ?_
  refine am_icmp_ge (tgt := 79) hz1 dX12_stepsOn_7 (by decide) (fun c1 => ?_) (fun c1 => ?_)
  · replace h := h.1 c1
    refine am_iconst (v := 0) hz1 dX12_stepsOn_79 (by decide) ?_
    refine am_istore_n (lv' := [(2, .int 0), (0, .ref ((zB z).size + 64)), (1, .int v1)]) hz1 dX12_stepsOn_80 rfl rfl rfl ?_
    exact am_sub (lv' := [(0, .ref ((zB z).size + 64)), (2, .int 0)]) [1, 0] rfl h
  · replace h := h.2 c1
    refine am_aload_n hz1 dX12_stepsOn_10 0 rfl rfl ?_
    refine am_getR hz1 fl_X12_50 (ln_64 hG) (lk_64 hG) (lr_64_21 hG) rfl dX12_stepsOn_11 ?_
    refine am_iload_n hz1 dX12_stepsOn_14 2 rfl rfl ?_
    refine am_lconst (v := 0) hz1 dX12_stepsOn_15 (by decide) ?_
    obtain ⟨g2, h⟩ := h
    refine am_last hz1 (ln_77 hG) (lk_77 hG) (by rw [(ll_77 hG)]; exact g2) dX12_stepsOn_16 ?_
    refine am_iconst (v := 0) hz1 dX12_stepsOn_17 (by decide) ?_
    refine am_istore_n (lv' := [(3, .int 0), (0, .ref ((zB z).size + 64)), (1, .int v1), (2, .int v2)]) hz1 dX12_stepsOn_18 rfl rfl rfl ?_
    exact am_sub (lv' := [(0, .ref ((zB z).size + 64)), (1, .int v1), (2, .int v2), (3, .int 0)]) [1, 2, 3, 0] rfl h
set_option maxRecDepth 100000 in
set_option maxHeartbeats 4000000 in
theorem b_X12_stepsOn_81 {z : amZ} {post : amP} {G : amG} {I : amI} {L : amL} (hz : Go z cX12_stepsOn RX12 4 none 5 0 0 post) (hG : Lay G) {v2 : Int32} (h : (((m_many L) ≤ v2) → post none G I L) ∧ ((¬ (m_many L) ≤ v2) → vp_in v2 16 ∧ vp_in v2 16 ∧ Wx z 0 0 81 [(0, .ref ((zB z).size + 64)), (2, .int (v2 + 1))] [] G I (setL L 76 (vp_updL (L 76) v2.toNatClampNeg (L 77 v2.toNatClampNeg))))) : Wx z 0 0 81 [(0, .ref ((zB z).size + 64)), (2, .int v2)] [] G I L := by
  have hz1 := hz.1
  refine am_iload_n hz1 dX12_stepsOn_81 1 rfl rfl ?_
  refine am_aload_n hz1 dX12_stepsOn_82 0 rfl rfl ?_
  refine am_cVf hz cv_X12_78 [] [.int v2] (c_X12_many hG  ) (ln_64 hG) (lk_64 hG) rfl rfl rfl ⟨Nat.le_refl _, Nat.le_refl _⟩ (Nat.le_of_ble_eq_true rfl) dX12_stepsOn_83 ?_
  refine am_icmp_ge (tgt := 107) hz1 dX12_stepsOn_86 (by decide) (fun c1 => ?_) (fun c1 => ?_)
  · replace h := h.1 c1
    exact am_return hz dX12_stepsOn_107 h
  · replace h := h.2 c1
    refine am_aload_n hz1 dX12_stepsOn_89 0 rfl rfl ?_
    refine am_getR hz1 fl_X12_47 (ln_64 hG) (lk_64 hG) (lr_64_20 hG) rfl dX12_stepsOn_90 ?_
    refine am_iload_n hz1 dX12_stepsOn_93 1 rfl rfl ?_
    refine am_aload_n hz1 dX12_stepsOn_94 0 rfl rfl ?_
    refine am_getR hz1 fl_X12_50 (ln_64 hG) (lk_64 hG) (lr_64_21 hG) rfl dX12_stepsOn_95 ?_
    refine am_iload_n hz1 dX12_stepsOn_98 1 rfl rfl ?_
    obtain ⟨g2, h⟩ := h
    refine am_lald hz1 (ln_77 hG) (lk_77 hG) (by rw [(ll_77 hG)]; exact g2) dX12_stepsOn_99 ?_
    obtain ⟨g3, h⟩ := h
    refine am_last hz1 (ln_76 hG) (lk_76 hG) (by rw [(ll_76 hG)]; exact g3) dX12_stepsOn_100 ?_
    refine am_iinc (v := v2 + 1) (lv' := [(2, .int (v2 + 1)), (0, .ref ((zB z).size + 64))]) hz1 dX12_stepsOn_101 1 rfl rfl rfl rfl ?_
    refine am_goto (tgt := 81) hz1 dX12_stepsOn_104 (by decide) ?_
    exact am_sub (lv' := [(0, .ref ((zB z).size + 64)), (2, .int (v2 + 1))]) [1, 0] rfl h
set_option maxRecDepth 100000 in
set_option maxHeartbeats 4000000 in
theorem b_X12_stepsOn_19 {z : amZ} {post : amP} {G : amG} {I : amI} {L : amL} (hz : Go z cX12_stepsOn RX12 4 none 5 0 0 post) (hG : Lay G) {v1 : Int32} {v2 : Int32} {v3 : Int32} (h : (((m_many L) ≤ v3) → Wx z 0 0 2 [(0, .ref ((zB z).size + 64)), (1, .int v1), (2, .int (v2 + 1))] [] G I L) ∧ ((¬ (m_many L) ≤ v3) → ((v1 = 0) → (vp_in v3 16) ∧ ((m_bl L v3 v2 = false) → Wx z 0 0 19 [(0, .ref ((zB z).size + 64)), (1, .int v1), (2, .int v2), (3, .int (v3 + 1))] [] G I L) ∧ ((m_bl L v3 v2 = true) → vp_in v2 16 ∧ vp_in v3 16 ∧ vp_in v2 16 ∧ Wx z 0 0 19 [(0, .ref ((zB z).size + 64)), (1, .int v1), (2, .int v2), (3, .int (v3 + 1))] [] G I (setL L 77 (vp_updL (L 77) v2.toNatClampNeg ((L 77 v2.toNatClampNeg) + (L 76 v3.toNatClampNeg)))))) ∧ ((¬ v1 = 0) → (mOk L) ∧ (vp_in v3 16) ∧ ((m_cov L v3 v2 = false) → Wx z 0 0 19 [(0, .ref ((zB z).size + 64)), (1, .int v1), (2, .int v2), (3, .int (v3 + 1))] [] G I L) ∧ ((m_cov L v3 v2 = true) → vp_in v2 16 ∧ vp_in v3 16 ∧ vp_in v2 16 ∧ Wx z 0 0 19 [(0, .ref ((zB z).size + 64)), (1, .int v1), (2, .int v2), (3, .int (v3 + 1))] [] G I (setL L 77 (vp_updL (L 77) v2.toNatClampNeg ((L 77 v2.toNatClampNeg) + (L 76 v3.toNatClampNeg)))))))) : Wx z 0 0 19 [(0, .ref ((zB z).size + 64)), (1, .int v1), (2, .int v2), (3, .int v3)] [] G I L := by
  have hz1 := hz.1
  refine am_iload_n hz1 dX12_stepsOn_19 3 rfl rfl ?_
  refine am_aload_n hz1 dX12_stepsOn_20 0 rfl rfl ?_
  refine am_cVf hz cv_X12_78 [] [.int v3] (c_X12_many hG  ) (ln_64 hG) (lk_64 hG) rfl rfl rfl ⟨Nat.le_refl _, Nat.le_refl _⟩ (Nat.le_of_ble_eq_true rfl) dX12_stepsOn_21 ?_
  refine am_icmp_ge (tgt := 73) hz1 dX12_stepsOn_24 (by decide) (fun c1 => ?_) (fun c1 => ?_)
  · replace h := h.1 c1
    refine am_iinc (v := v2 + 1) (lv' := [(2, .int (v2 + 1)), (0, .ref ((zB z).size + 64)), (1, .int v1), (3, .int v3)]) hz1 dX12_stepsOn_73 2 rfl rfl rfl rfl ?_
    refine am_goto (tgt := 2) hz1 dX12_stepsOn_76 (by decide) ?_
    exact am_sub (lv' := [(0, .ref ((zB z).size + 64)), (1, .int v1), (2, .int (v2 + 1))]) [1, 2, 0] rfl h
  · replace h := h.2 c1
    refine am_iload_n hz1 dX12_stepsOn_27 1 rfl rfl ?_
    refine am_if_eq (tgt := 43) hz1 dX12_stepsOn_28 (by decide) (fun c2 => ?_) (fun c2 => ?_)
    · replace h := h.1 c2
      refine am_aload_n hz1 dX12_stepsOn_43 0 rfl rfl ?_
      refine am_iload_n hz1 dX12_stepsOn_44 3 rfl rfl ?_
      refine am_iload_n hz1 dX12_stepsOn_45 2 rfl rfl ?_
      obtain ⟨g3, h⟩ := h
      refine am_cVf hz cv_X12_104 [.int v3, .int v2] [] (c_X12_isBelow hG v3 v2 g3) (ln_64 hG) (lk_64 hG) rfl rfl rfl ⟨Nat.le_refl _, Nat.le_refl _⟩ (Nat.le_of_ble_eq_true rfl) dX12_stepsOn_46 ?_
      refine am_ifb_eq (tgt := 67) hz1 dX12_stepsOn_49 (by decide) (fun c4 => ?_) (fun c4 => ?_)
      · replace h := h.1 c4
        refine am_iinc (v := v3 + 1) (lv' := [(3, .int (v3 + 1)), (0, .ref ((zB z).size + 64)), (1, .int v1), (2, .int v2)]) hz1 dX12_stepsOn_67 3 rfl rfl rfl rfl ?_
        refine am_goto (tgt := 19) hz1 dX12_stepsOn_70 (by decide) ?_
        exact am_sub (lv' := [(0, .ref ((zB z).size + 64)), (1, .int v1), (2, .int v2), (3, .int (v3 + 1))]) [1, 2, 3, 0] rfl h
      · replace h := h.2 c4
        refine am_aload_n hz1 dX12_stepsOn_52 0 rfl rfl ?_
        refine am_getR hz1 fl_X12_50 (ln_64 hG) (lk_64 hG) (lr_64_21 hG) rfl dX12_stepsOn_53 ?_
        refine am_iload_n hz1 dX12_stepsOn_56 2 rfl rfl ?_
        refine am_dup2 hz1 dX12_stepsOn_57 rfl rfl ?_
        obtain ⟨g5, h⟩ := h
        refine am_lald hz1 (ln_77 hG) (lk_77 hG) (by rw [(ll_77 hG)]; exact g5) dX12_stepsOn_58 ?_
        refine am_aload_n hz1 dX12_stepsOn_59 0 rfl rfl ?_
        refine am_getR hz1 fl_X12_47 (ln_64 hG) (lk_64 hG) (lr_64_20 hG) rfl dX12_stepsOn_60 ?_
        refine am_iload_n hz1 dX12_stepsOn_63 3 rfl rfl ?_
        obtain ⟨g6, h⟩ := h
        refine am_lald hz1 (ln_76 hG) (lk_76 hG) (by rw [(ll_76 hG)]; exact g6) dX12_stepsOn_64 ?_
        refine am_ladd hz1 dX12_stepsOn_65 ?_
        obtain ⟨g7, h⟩ := h
        refine am_last hz1 (ln_77 hG) (lk_77 hG) (by rw [(ll_77 hG)]; exact g7) dX12_stepsOn_66 ?_
        refine am_iinc (v := v3 + 1) (lv' := [(3, .int (v3 + 1)), (0, .ref ((zB z).size + 64)), (1, .int v1), (2, .int v2)]) hz1 dX12_stepsOn_67 3 rfl rfl rfl rfl ?_
        refine am_goto (tgt := 19) hz1 dX12_stepsOn_70 (by decide) ?_
        exact am_sub (lv' := [(0, .ref ((zB z).size + 64)), (1, .int v1), (2, .int v2), (3, .int (v3 + 1))]) [1, 2, 3, 0] rfl h
    · replace h := h.2 c2
      refine am_aload_n hz1 dX12_stepsOn_31 0 rfl rfl ?_
      refine am_iload_n hz1 dX12_stepsOn_32 3 rfl rfl ?_
      refine am_iload_n hz1 dX12_stepsOn_33 2 rfl rfl ?_
      obtain ⟨g8, h⟩ := h
      obtain ⟨g9, h⟩ := h
      refine am_cVf hz cv_X12_239 [.int v3, .int v2] [] (c_X12_isCover hG v3 v2 g8 g9) (ln_64 hG) (lk_64 hG) rfl rfl rfl ⟨Nat.le_refl _, Nat.le_refl _⟩ (Nat.le_of_ble_eq_true rfl) dX12_stepsOn_34 ?_
      refine am_ifb_eq (tgt := 67) hz1 dX12_stepsOn_37 (by decide) (fun c10 => ?_) (fun c10 => ?_)
      · replace h := h.1 c10
        refine am_iinc (v := v3 + 1) (lv' := [(3, .int (v3 + 1)), (0, .ref ((zB z).size + 64)), (1, .int v1), (2, .int v2)]) hz1 dX12_stepsOn_67 3 rfl rfl rfl rfl ?_
        refine am_goto (tgt := 19) hz1 dX12_stepsOn_70 (by decide) ?_
        exact am_sub (lv' := [(0, .ref ((zB z).size + 64)), (1, .int v1), (2, .int v2), (3, .int (v3 + 1))]) [1, 2, 3, 0] rfl h
      · replace h := h.2 c10
        refine am_goto (tgt := 52) hz1 dX12_stepsOn_40 (by decide) ?_
        refine am_aload_n hz1 dX12_stepsOn_52 0 rfl rfl ?_
        refine am_getR hz1 fl_X12_50 (ln_64 hG) (lk_64 hG) (lr_64_21 hG) rfl dX12_stepsOn_53 ?_
        refine am_iload_n hz1 dX12_stepsOn_56 2 rfl rfl ?_
        refine am_dup2 hz1 dX12_stepsOn_57 rfl rfl ?_
        obtain ⟨g11, h⟩ := h
        refine am_lald hz1 (ln_77 hG) (lk_77 hG) (by rw [(ll_77 hG)]; exact g11) dX12_stepsOn_58 ?_
        refine am_aload_n hz1 dX12_stepsOn_59 0 rfl rfl ?_
        refine am_getR hz1 fl_X12_47 (ln_64 hG) (lk_64 hG) (lr_64_20 hG) rfl dX12_stepsOn_60 ?_
        refine am_iload_n hz1 dX12_stepsOn_63 3 rfl rfl ?_
        obtain ⟨g12, h⟩ := h
        refine am_lald hz1 (ln_76 hG) (lk_76 hG) (by rw [(ll_76 hG)]; exact g12) dX12_stepsOn_64 ?_
        refine am_ladd hz1 dX12_stepsOn_65 ?_
        obtain ⟨g13, h⟩ := h
        refine am_last hz1 (ln_77 hG) (lk_77 hG) (by rw [(ll_77 hG)]; exact g13) dX12_stepsOn_66 ?_
        refine am_iinc (v := v3 + 1) (lv' := [(3, .int (v3 + 1)), (0, .ref ((zB z).size + 64)), (1, .int v1), (2, .int v2)]) hz1 dX12_stepsOn_67 3 rfl rfl rfl rfl ?_
        refine am_goto (tgt := 19) hz1 dX12_stepsOn_70 (by decide) ?_
        exact am_sub (lv' := [(0, .ref ((zB z).size + 64)), (1, .int v1), (2, .int v2), (3, .int (v3 + 1))]) [1, 2, 3, 0] rfl h
set_option maxRecDepth 100000 in
set_option maxHeartbeats 4000000 in
theorem c_X12_stepsOn {l : Launch} {D : va_G} {B : Heap} {G : amG} {I : amI} {L : amL}  (hG : Lay G)  (v1 : Int32) (hM : mOk L) : Fx l D B yX12_stepsOn cX12_stepsOn 4 none 5 [.ref (B.size + 64), .int v1] G I L none I (m_stp L v1) := by
  refine Mx.of (by decide) rfl rfl (fun z e1 e2 e3 hz => ?_)
  subst e1; subst e2; subst e3
  refine b_X12_stepsOn_0 hz hG ?_
  have hO := hM
  obtain ⟨n, A, hM⟩ := hM
  have h16 := hM.2.1
  have hM' : ∀ f, MO (setL L 77 f) n A := fun f => MO_72 hM (by decide)
  have hM2 : ∀ f g, MO (setL (setL L 77 f) 76 g) n A := fun f g => MO_72 (MO_72 hM (by decide)) (by decide)
  have bl' : ∀ f x y, m_bl (setL L 77 f) x y = m_bl L x y := fun f x y => by unfold m_bl; rw [m_am_c (setL_n (by decide))]
  have cv' : ∀ f x y, m_cov (setL L 77 f) x y = m_cov L x y := fun f x y => by unfold m_cov; rw [bl', m_iv_c (setL_n (by decide))]
  have tail := for_up (P := fun i => Wx z 0 0 81 [(0, .ref ((zB z).size + 64)), (2, .int (nI i))] [] G I (setL (setL L 77 (wr (L 77) 0 n (m_stV L v1))) 76 (wr (L 76) 0 i (m_stV L v1)))) (n := n) ?_ ?_ (Nat.zero_le _)
  · have main := for_up (P := fun b => Wx z 0 0 2 [(0, .ref ((zB z).size + 64)), (1, .int v1), (2, .int (nI b))] [] G I (setL L 77 (wr (L 77) 0 b (m_stV L v1)))) (n := n) ?_ ?_ (Nat.zero_le _)
    · rw [wr_0, setL_id] at main
      exact main
    · refine b_X12_stepsOn_2 hz hG ⟨fun _ => ?_, fun h => absurd (mm_le (hM' _)) h⟩
      rw [wr_0, show L 76 = setL L 77 (wr (L 77) 0 n (m_stV L v1)) 76 from (setL_n (by decide)).symm, setL_id] at tail
      exact tail
    · intro b hb bh
      refine b_X12_stepsOn_2 hz hG ⟨fun h => absurd h (mm_ge (hM' _) hb), fun _ => ⟨in16 h16 hb, ?_⟩⟩
      rw [setL_ss, setL_s, cl_nI (n := b) (by omega)]
      have e76 : ∀ f, setL L 77 f 76 = L 76 := fun f => setL_n (by decide)
      refine for_up (P := fun a => Wx z 0 0 19 [(0, .ref ((zB z).size + 64)), (1, .int v1), (2, .int (nI b)), (3, .int (nI a))] [] G I (setL L 77 (vp_updL (wr (L 77) 0 b (m_stV L v1)) b (sumC (fun a => if v1 = 0 then m_bl L (nI a) (nI b) else m_cov L (nI a) (nI b)) (L 76) a)))) (n := n) ?_ ?_ (Nat.zero_le _)
      · refine b_X12_stepsOn_19 hz hG ⟨fun _ => ?_, fun h => absurd (mm_le (hM' _)) h⟩
        rw [wr_L0 (by rw [m_stV, hM.N]), nI_1]
        exact bh
      · intro a ha ah
        refine b_X12_stepsOn_19 hz hG ⟨fun h => absurd h (mm_ge (hM' _) ha), fun _ => ?_⟩
        rw [bl', cv', setL_ss, setL_s, cl_nI (n := b) (by omega), cl_nI (n := a) (by omega), updL_s, updL_u, e76, nI_1]
        refine ⟨fun h0 => ⟨in16 h16 ha, fun h => ?_, fun h => ⟨in16 h16 hb, in16 h16 ha, in16 h16 hb, ?_⟩⟩, fun h0 => ⟨⟨n, A, hM' _⟩, in16 h16 ha, fun h => ?_, fun h => ⟨in16 h16 hb, in16 h16 ha, in16 h16 hb, ?_⟩⟩⟩
        · rw [sumC, if_neg (by rw [if_pos h0, h]; decide)] at ah
          exact ah
        · rw [sumC, if_pos (by rw [if_pos h0, h])] at ah
          exact ah
        · rw [sumC, if_neg (by rw [if_neg h0, h]; decide)] at ah
          exact ah
        · rw [sumC, if_pos (by rw [if_neg h0, h])] at ah
          exact ah
  · exact b_X12_stepsOn_81 hz hG ⟨fun _ => ⟨rfl, rfl, rfl, by rw [m_stp, hM.N]⟩, fun h => absurd (mm_le (hM2 _ _)) h⟩
  · intro i hi ih
    refine b_X12_stepsOn_81 hz hG ⟨fun h => absurd h (mm_ge (hM2 _ _) hi), fun _ => ⟨in16 h16 hi, in16 h16 hi, ?_⟩⟩
    rw [setL_ss, setL_s, setL_n (q := 77) (by decide), setL_s, cl_nI (by omega), wr_in (by omega), Nat.sub_zero, wr_L0 rfl, nI_1]
    exact ih
def m_chn (L : amL) (a v : Int32) : Nat → amL
  | 0 => setL L 76 (wr (L 76) 0 16 (fun b => if nI b = a then 1 else 0))
  | k + 1 => m_stp (m_chn L a v k) v
theorem chn_o {L : amL} {a v : Int32} {q : Nat} (h1 : q ≠ 76) (h2 : q ≠ 77) : ∀ k, m_chn L a v k q = L q
  | 0 => setL_n h1
  | k + 1 => by rw [m_chn, m_stp, setL_n h1, setL_n h2, chn_o h1 h2 k]
theorem chn_M {L : amL} {a v : Int32} {n : Nat} {A : Nat → Int32} (h : MO L n A) (k : Nat) : MO (m_chn L a v k) n A := MO_c h (chn_o (by decide) (by decide) k)
set_option maxRecDepth 100000 in
set_option maxHeartbeats 4000000 in
theorem b_X12_chainsOf_0 {z : amZ} {post : amP} {G : amG} {I : amI} {L : amL} (hz : Go z cX12_chainsOf RX12 5 (some .long) 6 0 0 post) (hG : Lay G) {v1 : Int32} {v2 : Int32} {v3 : Int32} (h : Wx z 0 0 8 [(0, .ref ((zB z).size + 64)), (2, .int v2), (3, .int v3), (4, .int 0)] [] G I (setL L 76 (wr (L 76) 0 16 (fun b => if nI b = v1 then 1 else 0)))) : Wx z 0 0 0 [(0, .ref ((zB z).size + 64)), (1, .int v1), (2, .int v2), (3, .int v3)] [] G I L := by
  have hz1 := hz.1
  refine am_aload_n hz1 dX12_chainsOf_0 0 rfl rfl ?_
  refine am_iload_n hz1 dX12_chainsOf_1 1 rfl rfl ?_
  refine am_cVf hz cv_X12_361 [.int v1] [] (c_X12_startsFrom hG v1 ) (ln_64 hG) (lk_64 hG) rfl rfl rfl ⟨Nat.le_refl _, Nat.le_refl _⟩ (Nat.le_of_ble_eq_true rfl) dX12_chainsOf_2 ?_
  refine am_iconst (v := 0) hz1 dX12_chainsOf_5 (by decide) ?_
  refine am_istore (lv' := [(4, .int 0), (0, .ref ((zB z).size + 64)), (1, .int v1), (2, .int v2), (3, .int v3)]) hz1 dX12_chainsOf_6 rfl rfl ?_
  exact am_sub (lv' := [(0, .ref ((zB z).size + 64)), (2, .int v2), (3, .int v3), (4, .int 0)]) [1, 3, 4, 0] rfl h
set_option maxRecDepth 100000 in
set_option maxHeartbeats 4000000 in
theorem b_X12_chainsOf_8 {z : amZ} {post : amP} {G : amG} {I : amI} {L : amL} (hz : Go z cX12_chainsOf RX12 5 (some .long) 6 0 0 post) (hG : Lay G) {v2 : Int32} {v3 : Int32} {v4 : Int32} (h : ((v3 ≤ v4) → vp_in v2 16 ∧ post (some (.long (L 76 v2.toNatClampNeg))) G I L) ∧ ((¬ v3 ≤ v4) → (mOk L) ∧ Wx z 0 0 8 [(0, .ref ((zB z).size + 64)), (2, .int v2), (3, .int v3), (4, .int (v4 + 1))] [] G I (m_stp L (0 : Int32)))) : Wx z 0 0 8 [(0, .ref ((zB z).size + 64)), (2, .int v2), (3, .int v3), (4, .int v4)] [] G I L := by
  have hz1 := hz.1
  refine am_iload hz1 dX12_chainsOf_8 3 rfl ?_
  refine am_iload_n hz1 dX12_chainsOf_10 2 rfl rfl ?_
  refine am_icmp_ge (tgt := 25) hz1 dX12_chainsOf_11 (by decide) (fun c1 => ?_) (fun c1 => ?_)
  · replace h := h.1 c1
    refine am_aload_n hz1 dX12_chainsOf_25 0 rfl rfl ?_
    refine am_getR hz1 fl_X12_47 (ln_64 hG) (lk_64 hG) (lr_64_20 hG) rfl dX12_chainsOf_26 ?_
    refine am_iload_n hz1 dX12_chainsOf_29 1 rfl rfl ?_
    obtain ⟨g2, h⟩ := h
    refine am_lald hz1 (ln_76 hG) (lk_76 hG) (by rw [(ll_76 hG)]; exact g2) dX12_chainsOf_30 ?_
    exact am_lreturn hz dX12_chainsOf_31 h
  · replace h := h.2 c1
    refine am_aload_n hz1 dX12_chainsOf_14 0 rfl rfl ?_
    refine am_iconst (v := 0) hz1 dX12_chainsOf_15 (by decide) ?_
    obtain ⟨g3, h⟩ := h
    refine am_cVf hz cv_X12_364 [.int 0] [] (c_X12_stepsOn hG (0 : Int32) g3) (ln_64 hG) (lk_64 hG) rfl rfl rfl ⟨Nat.le_refl _, Nat.le_refl _⟩ (Nat.le_of_ble_eq_true rfl) dX12_chainsOf_16 ?_
    refine am_iinc (v := v4 + 1) (lv' := [(4, .int (v4 + 1)), (0, .ref ((zB z).size + 64)), (2, .int v2), (3, .int v3)]) hz1 dX12_chainsOf_19 3 rfl rfl rfl rfl ?_
    refine am_goto (tgt := 8) hz1 dX12_chainsOf_22 (by decide) ?_
    exact am_sub (lv' := [(0, .ref ((zB z).size + 64)), (2, .int v2), (3, .int v3), (4, .int (v4 + 1))]) [1, 2, 3, 0] rfl h
set_option maxRecDepth 100000 in
set_option maxHeartbeats 4000000 in
theorem c_X12_chainsOf {l : Launch} {D : va_G} {B : Heap} {G : amG} {I : amI} {L : amL}  (hG : Lay G)  (v1 : Int32) (v2 : Int32) (v3 : Int32) (hM : mOk L) (hb : vp_in v2 16) (hk : w16 v3) : Fx l D B yX12_chainsOf cX12_chainsOf 5 (some .long) 6 [.ref (B.size + 64), .int v1, .int v2, .int v3] G I L (some (.long (m_chn L v1 0 v3.toNatClampNeg 76 v2.toNatClampNeg))) I (m_chn L v1 0 v3.toNatClampNeg) := by
  refine Mx.of (by decide) rfl rfl (fun z e1 e2 e3 hz => ?_)
  subst e1; subst e2; subst e3
  refine b_X12_chainsOf_0 hz hG ?_
  obtain ⟨n, A, hM⟩ := hM
  obtain ⟨k, hk16, rfl⟩ := hk
  have ek : (nI k).toNatClampNeg = k := cl_nI (by omega)
  refine for_up (P := fun i => Wx z 0 0 8 [(0, .ref ((zB z).size + 64)), (2, .int v2), (3, .int (nI k)), (4, .int (nI i))] [] G I (m_chn L v1 0 i)) (n := k) ?_ ?_ (Nat.zero_le _)
  · exact b_X12_chainsOf_8 hz hG ⟨fun _ => ⟨hb, by rw [ek], rfl, rfl, by rw [ek]⟩, fun h => absurd (nI_le (Nat.le_refl _) (by omega)) h⟩
  · intro i hi ih
    refine b_X12_chainsOf_8 hz hG ⟨fun h => absurd h (nI_ge hi (by omega)), fun _ => ⟨⟨n, A, chn_M hM i⟩, ?_⟩⟩
    rw [nI_1]
    exact ih
def m_ac (L : amL) (a b v : Int32) : Nat → Int64
  | 0 => m_chn L a v 0 76 b.toNatClampNeg
  | k + 1 => m_ac L a b v k + m_chn L a v (k + 1) 76 b.toNatClampNeg
set_option maxRecDepth 100000 in
set_option maxHeartbeats 4000000 in
theorem b_X12_allChains_0 {z : amZ} {post : amP} {G : amG} {I : amI} {L : amL} (hz : Go z cX12_allChains RX12 7 (some .long) 6 0 0 post) (hG : Lay G) {v1 : Int32} {v2 : Int32} {v3 : Int32} (h : vp_in v2 16 ∧ Wx z 0 0 16 [(0, .ref ((zB z).size + 64)), (2, .int v2), (3, .int v3), (4, .long ((setL L 76 (wr (L 76) 0 16 (fun b => if nI b = v1 then 1 else 0))) 76 v2.toNatClampNeg)), (6, .int 1)] [] G I (setL L 76 (wr (L 76) 0 16 (fun b => if nI b = v1 then 1 else 0)))) : Wx z 0 0 0 [(0, .ref ((zB z).size + 64)), (1, .int v1), (2, .int v2), (3, .int v3)] [] G I L := by
  have hz1 := hz.1
  refine am_aload_n hz1 dX12_allChains_0 0 rfl rfl ?_
  refine am_iload_n hz1 dX12_allChains_1 1 rfl rfl ?_
  refine am_cVf hz cv_X12_361 [.int v1] [] (c_X12_startsFrom hG v1 ) (ln_64 hG) (lk_64 hG) rfl rfl rfl ⟨Nat.le_refl _, Nat.le_refl _⟩ (Nat.le_of_ble_eq_true rfl) dX12_allChains_2 ?_
  refine am_aload_n hz1 dX12_allChains_5 0 rfl rfl ?_
  refine am_getR hz1 fl_X12_47 (ln_64 hG) (lk_64 hG) (lr_64_20 hG) rfl dX12_allChains_6 ?_
  refine am_iload_n hz1 dX12_allChains_9 2 rfl rfl ?_
  obtain ⟨g1, h⟩ := h
  refine am_lald hz1 (ln_76 hG) (lk_76 hG) (by rw [(ll_76 hG)]; exact g1) dX12_allChains_10 ?_
  refine am_lstore (lv' := [(4, .long ((setL L 76 (wr (L 76) 0 16 (fun b => if nI b = v1 then 1 else 0))) 76 v2.toNatClampNeg)), (0, .ref ((zB z).size + 64)), (1, .int v1), (2, .int v2), (3, .int v3)]) hz1 dX12_allChains_11 rfl rfl ?_
  refine am_iconst (v := 1) hz1 dX12_allChains_13 (by decide) ?_
  refine am_istore (lv' := [(6, .int 1), (4, .long ((setL L 76 (wr (L 76) 0 16 (fun b => if nI b = v1 then 1 else 0))) 76 v2.toNatClampNeg)), (0, .ref ((zB z).size + 64)), (1, .int v1), (2, .int v2), (3, .int v3)]) hz1 dX12_allChains_14 rfl rfl ?_
  exact am_sub (lv' := [(0, .ref ((zB z).size + 64)), (2, .int v2), (3, .int v3), (4, .long ((setL L 76 (wr (L 76) 0 16 (fun b => if nI b = v1 then 1 else 0))) 76 v2.toNatClampNeg)), (6, .int 1)]) [2, 4, 5, 1, 0] rfl h
set_option maxRecDepth 100000 in
set_option maxHeartbeats 4000000 in
theorem b_X12_allChains_16 {z : amZ} {post : amP} {G : amG} {I : amI} {L : amL} (hz : Go z cX12_allChains RX12 7 (some .long) 6 0 0 post) (hG : Lay G) {v2 : Int32} {v3 : Int32} {v4 : Int64} {v6 : Int32} (h : (((16 : Int32) ≤ v6) → post (some (.long v4)) G I L) ∧ ((¬ (16 : Int32) ≤ v6) → (mOk L) ∧ vp_in v2 16 ∧ Wx z 0 0 16 [(0, .ref ((zB z).size + 64)), (2, .int v2), (3, .int v3), (4, .long (v4 + ((m_stp L v3) 76 v2.toNatClampNeg))), (6, .int (v6 + 1))] [] G I (m_stp L v3))) : Wx z 0 0 16 [(0, .ref ((zB z).size + 64)), (2, .int v2), (3, .int v3), (4, .long v4), (6, .int v6)] [] G I L := by
  have hz1 := hz.1
  refine am_iload hz1 dX12_allChains_16 4 rfl ?_
  refine am_bipush (v := 16) hz1 dX12_allChains_18 (by decide) ?_
  refine am_icmp_ge (tgt := 45) hz1 dX12_allChains_20 (by decide) (fun c1 => ?_) (fun c1 => ?_)
  · replace h := h.1 c1
    refine am_lload hz1 dX12_allChains_45 3 rfl ?_
    exact am_lreturn hz dX12_allChains_47 h
  · replace h := h.2 c1
    refine am_aload_n hz1 dX12_allChains_23 0 rfl rfl ?_
    refine am_iload_n hz1 dX12_allChains_24 2 rfl rfl ?_
    obtain ⟨g2, h⟩ := h
    refine am_cVf hz cv_X12_364 [.int v3] [] (c_X12_stepsOn hG v3 g2) (ln_64 hG) (lk_64 hG) rfl rfl rfl ⟨Nat.le_refl _, Nat.le_refl _⟩ (Nat.le_of_ble_eq_true rfl) dX12_allChains_25 ?_
    refine am_lload hz1 dX12_allChains_28 3 rfl ?_
    refine am_aload_n hz1 dX12_allChains_30 0 rfl rfl ?_
    refine am_getR hz1 fl_X12_47 (ln_64 hG) (lk_64 hG) (lr_64_20 hG) rfl dX12_allChains_31 ?_
    refine am_iload_n hz1 dX12_allChains_34 1 rfl rfl ?_
    obtain ⟨g3, h⟩ := h
    refine am_lald hz1 (ln_76 hG) (lk_76 hG) (by rw [(ll_76 hG)]; exact g3) dX12_allChains_35 ?_
    refine am_ladd hz1 dX12_allChains_36 ?_
    refine am_lstore (lv' := [(4, .long (v4 + ((m_stp L v3) 76 v2.toNatClampNeg))), (0, .ref ((zB z).size + 64)), (2, .int v2), (3, .int v3), (6, .int v6)]) hz1 dX12_allChains_37 rfl rfl ?_
    refine am_iinc (v := v6 + 1) (lv' := [(6, .int (v6 + 1)), (4, .long (v4 + ((m_stp L v3) 76 v2.toNatClampNeg))), (0, .ref ((zB z).size + 64)), (2, .int v2), (3, .int v3)]) hz1 dX12_allChains_39 4 rfl rfl rfl rfl ?_
    refine am_goto (tgt := 16) hz1 dX12_allChains_42 (by decide) ?_
    exact am_sub (lv' := [(0, .ref ((zB z).size + 64)), (2, .int v2), (3, .int v3), (4, .long (v4 + ((m_stp L v3) 76 v2.toNatClampNeg))), (6, .int (v6 + 1))]) [2, 3, 4, 1, 0] rfl h
set_option maxRecDepth 100000 in
set_option maxHeartbeats 4000000 in
theorem c_X12_allChains {l : Launch} {D : va_G} {B : Heap} {G : amG} {I : amI} {L : amL}  (hG : Lay G)  (v1 : Int32) (v2 : Int32) (v3 : Int32) (hM : mOk L) (hb : vp_in v2 16) : Fx l D B yX12_allChains cX12_allChains 7 (some .long) 6 [.ref (B.size + 64), .int v1, .int v2, .int v3] G I L (some (.long (m_ac L v1 v2 v3 15))) I (m_chn L v1 v3 15) := by
  refine Mx.of (by decide) rfl rfl (fun z e1 e2 e3 hz => ?_)
  subst e1; subst e2; subst e3
  refine b_X12_allChains_0 hz hG ?_
  obtain ⟨n, A, hM⟩ := hM
  refine ⟨hb, ?_⟩
  refine for_up (P := fun i => Wx z 0 0 16 [(0, .ref ((zB z).size + 64)), (2, .int v2), (3, .int v3), (4, .long (m_ac L v1 v2 v3 i)), (6, .int (nI (i + 1)))] [] G I (m_chn L v1 v3 i)) (n := 15) ?_ ?_ (Nat.zero_le _)
  · exact b_X12_allChains_16 hz hG ⟨fun _ => ⟨rfl, rfl, rfl, rfl⟩, fun h => absurd (nI_le (a := 16) (b := 16) (Nat.le_refl _) (by decide)) h⟩
  · intro i hi ih
    refine b_X12_allChains_16 hz hG ⟨fun h => absurd h (nI_ge (b := 16) (by omega) (by decide)), fun _ => ⟨⟨n, A, chn_M hM i⟩, hb, ?_⟩⟩
    rw [nI_1]
    exact ih
set_option maxRecDepth 100000 in
set_option maxHeartbeats 4000000 in
theorem b_X12_fromBelow_0 {z : amZ} {post : amP} {G : amG} {I : amI} {L : amL} (hz : Go z cX12_fromBelow RX12 3 (some .long) 6 0 0 post) (hG : Lay G) {v1 : Int32} {v2 : Int32} (h : ∃ (dq1 : Nat) (postq1 : amP), Nat.ble (dq1 + 1) 6 = true ∧ Mx (zL z) (zD z) (zB z) yX12_moebiusMade cX12_moebiusMade 4 none dq1 0 0 [.ref ((zB z).size + 64)] G I L postq1 ∧ ∀ (roq1 : Option Value) (Gq1 : amG) (Iq1 : amI) (Lq1 : amL), postq1 roq1 Gq1 Iq1 Lq1 → roq1 = none ∧ Lay Gq1 ∧ vp_in (((16 : Int32) * v1) + v2) 256 ∧ post (some (.long (Lq1 72 (((16 : Int32) * v1) + v2).toNatClampNeg))) Gq1 Iq1 Lq1) : Wx z 0 0 0 [(0, .ref ((zB z).size + 64)), (1, .int v1), (2, .int v2)] [] G I L := by
  have hz1 := hz.1
  refine am_aload_n hz1 dX12_fromBelow_0 0 rfl rfl ?_
  obtain ⟨dq1, postq1, hdq1, hMq1, h⟩ := h
  refine am_callV hz1 cv_X12_283 [] [] hMq1 (ln_64 hG) (lk_64 hG) rfl rfl (hz.fr hdq1) (hz.lo hdq1) (by rw [hz.2.1]; exact ⟨Nat.le_refl _, Nat.le_refl _⟩) (Nat.le_of_ble_eq_true rfl) dX12_fromBelow_1 (fun roq1 Gq1 Iq1 Lq1 hpq1 => ?_)
  obtain ⟨rfl, hGq1, h⟩ := h roq1 Gq1 Iq1 Lq1 hpq1
  refine am_aload_n hz1 dX12_fromBelow_4 0 rfl rfl ?_
  refine am_getR hz1 fl_X12_35 (ln_64 hGq1) (lk_64 hGq1) (lr_64_16 hGq1) rfl dX12_fromBelow_5 ?_
  refine am_bipush (v := 16) hz1 dX12_fromBelow_8 (by decide) ?_
  refine am_iload_n hz1 dX12_fromBelow_10 1 rfl rfl ?_
  refine am_imul hz1 dX12_fromBelow_11 ?_
  refine am_iload_n hz1 dX12_fromBelow_12 2 rfl rfl ?_
  refine am_iadd hz1 dX12_fromBelow_13 ?_
  obtain ⟨g2, h⟩ := h
  refine am_lald hz1 (ln_72 hGq1) (lk_72 hGq1) (by rw [(ll_72 hGq1)]; exact g2) dX12_fromBelow_14 ?_
  exact am_lreturn hz dX12_fromBelow_15 h
set_option maxRecDepth 100000 in
set_option maxHeartbeats 4000000 in
theorem c_X12_fromBelow {l : Launch} {D : va_G} {B : Heap} {G : amG} {I : amI} {L : amL}  (hG : Lay G)  (v1 : Int32) (v2 : Int32) {n a b : Nat} {A : Nat → Int32} (hM : MO L n A) (ha : a < n) (hb : b < n) (hl : le A a b = true) (hv1 : v1 = nI a) (hv2 : v2 = nI b) : Mx l D B yX12_fromBelow cX12_fromBelow 3 (some .long) 6 0 0 [.ref (B.size + 64), .int v1, .int v2] G I L (fun r G1 I1 L1 => r = some (.long (mu n A a b)) ∧ G1 = G ∧ I1 = I ∧ ∃ f : Nat → Int64, L1 = setL L 72 f) := by
  refine Mx.of (by decide) rfl rfl (fun z e1 e2 e3 hz => ?_)
  subst e1; subst e2; subst e3
  refine b_X12_fromBelow_0 hz hG ?_
  subst hv1; subst hv2
  have h16 := hM.2.1
  refine ⟨5, _, rfl, c_X12_moebiusMade hG hM, fun ro G2 I2 L2 ⟨e1, e2, e3, f, e4, e5⟩ => ⟨e1, by rw [e2]; exact hG, by rw [c16]; exact in_nI (by omega) (by decide), ?_, e2, e3, f, e4⟩⟩
  rw [c16, cl_nI (by omega), e4, setL_s, e5 a b (by omega) (by omega), if_pos ⟨ha, hb⟩, muT, if_pos hl]
