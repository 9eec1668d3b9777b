/-! THE REFERENCE: its small questions -/
def m_isIn (v a b : Int64) : Bool := decide (¬ v < a) && decide (¬ b < v)
def m_has (s k : Int32) : Bool := decide ((s >>> (k &&& 31)) &&& 1 = 1)
def s16 (s : Int32) : Prop := ∀ i, 16 ≤ i → i < 32 → bt s i = false
def m_size (s : Int32) : Int32 := nI (ct (bt s) 16)
def m_many (L : amL) : Int32 := (L 65 0).toInt32
def m_up (L : amL) (a : Int32) : Int32 := (L 65 (1 + a).toNatClampNeg).toInt32
def m_el (L : amL) (a : Int32) : Bool := m_isIn a.toInt64 0 ((m_many L - 1).toInt64)
def m_am (L : amL) (a b : Int32) : Bool := m_has (m_up L a) b
def m_bl (L : amL) (a b : Int32) : Bool := decide (¬ a = b) && m_am L a b
def mN (L : amL) : Nat := (m_many L).toNatClampNeg
def m_dn (L : amL) (b : Int32) : Int32 := mkset (fun a => m_am L (nI a) b) (mN L)
def m_iv (L : amL) (a b : Int32) : Int32 := if m_am L a b = true then m_up L a &&& m_dn L b else 0
def m_isiv (L : amL) (a b : Int32) : Bool := m_el L a && (m_el L b && m_am L a b)
def m_cov (L : amL) (a b : Int32) : Bool := m_bl L a b && decide (m_size (m_iv L a b) = 2)
/-- the order that the reference holds -/
def MO (L : amL) (n : Nat) (A : Nat → Int32) : Prop := 1 ≤ n ∧ n ≤ 16 ∧ PO n A ∧ L 65 0 = lN n ∧ (∀ a, a < n → L 65 (1 + a) = (upS A a).toInt64) ∧ ∀ a, n ≤ a → a < 16 → L 65 (1 + a) = 0
def mOk (L : amL) : Prop := ∃ (n : Nat) (A : Nat → Int32), MO L n A
theorem MO.many {L : amL} {n : Nat} {A : Nat → Int32} (h : MO L n A) : m_many L = nI n := by rw [m_many, h.2.2.2.1, lN_i]
theorem MO.N {L : amL} {n : Nat} {A : Nat → Int32} (h : MO L n A) : mN L = n := by rw [mN, h.many]; exact cl_nI (by have := h.2.1; omega)
theorem i1 {a : Nat} (ha : a < 16) : (1 + nI a).toNatClampNeg = 1 + a := by rw [show (1 : Int32) = nI 1 from rfl, nI_add]; exact cl_nI (by omega)
theorem MO.up {L : amL} {n : Nat} {A : Nat → Int32} (h : MO L n A) {a : Nat} (ha : a < n) : m_up L (nI a) = upS A a := by
  have := h.2.1
  rw [m_up, i1 (by omega), h.2.2.2.2.1 a ha, Int32.toInt32_toInt64]
theorem MO.up0 {L : amL} {n : Nat} {A : Nat → Int32} (h : MO L n A) {a : Nat} (ha : n ≤ a) (ha2 : a < 16) : m_up L (nI a) = 0 := by
  rw [m_up, i1 (by omega), h.2.2.2.2.2 a ha ha2]
  rfl
theorem has_b {s : Int32} {k : Nat} (hk : k < 32) : m_has s (nI k) = bt s k := by
  rw [m_has]
  by_cases h : bt s k = true
  · rw [h, decide_eq_true ((b_bit s k hk).mpr h)]
  · rw [Bool.not_eq_true] at h
    rw [h, decide_eq_false ((b_bit0 s k hk).mpr h)]
def le (A : Nat → Int32) (x y : Nat) : Bool := bt (upS A x) y
theorem le_b {A : Nat → Int32} {x y : Nat} (hx : x < 32) (hy : y < 32) : le A x y = (bt (A x) y || decide (y = x)) := by rw [le, upS, b_or, b_one x hx hy]
theorem MO.am {L : amL} {n : Nat} {A : Nat → Int32} (h : MO L n A) {a b : Nat} (ha : a < n) (hb : b < 32) : m_am L (nI a) (nI b) = le A a b := by rw [m_am, h.up ha, has_b hb, le]
theorem up_16 {n : Nat} {A : Nat → Int32} (hP : PO n A) (h16 : n ≤ 16) {a : Nat} (ha : a < n) : s16 (upS A a) := by
  intro i h1 h2
  rw [upS, b_or, b_one a (by omega) h2, decide_eq_false (by omega), Bool.or_false, Bool.eq_false_iff]
  intro h
  have := hP.1 a ha i h2 h
  omega
theorem mk_16 {f : Nat → Bool} {n : Nat} (h16 : n ≤ 16) : s16 (mkset f n) := by
  intro i h1 h2
  rw [b_mk f n (by omega) i h2, decide_eq_false (by omega), Bool.false_and]
theorem and_16 {s t : Int32} (h : s16 s) : s16 (s &&& t) := fun i h1 h2 => by rw [b_and, h i h1 h2, Bool.false_and]
theorem and_16' {s t : Int32} (h : s16 t) : s16 (s &&& t) := fun i h1 h2 => by rw [b_and, h i h1 h2, Bool.and_false]
theorem zero_16 : s16 0 := fun i _ _ => b_0 i
theorem m_dn_16 {L : amL} (h : mOk L) {b : Int32} : s16 (m_dn L b) := by
  obtain ⟨n, A, hM⟩ := h
  rw [m_dn, hM.N]
  exact mk_16 hM.2.1
theorem m_iv_16 {L : amL} (h : mOk L) {a b : Int32} : s16 (m_iv L a b) := by
  rw [m_iv]
  split
  · exact and_16' (m_dn_16 h)
  · exact zero_16
theorem m_up_16 {L : amL} (h : mOk L) {a : Nat} (ha : a < 16) : s16 (m_up L (nI a)) := by
  obtain ⟨n, A, hM⟩ := h
  by_cases e : a < n
  · rw [hM.up e]; exact up_16 hM.2.2.1 hM.2.1 e
  · rw [hM.up0 (by omega) ha]; exact zero_16
theorem mm_ge {L : amL} {n i : Nat} {A : Nat → Int32} (h : MO L n A) (hi : i < n) : ¬ m_many L ≤ nI i := by rw [h.many]; exact nI_ge hi (by have := h.2.1; omega)
theorem mm_le {L : amL} {n : Nat} {A : Nat → Int32} (h : MO L n A) : m_many L ≤ nI n := by rw [h.many]; exact nI_le (Nat.le_refl _) (by have := h.2.1; omega)
set_option maxRecDepth 100000 in
set_option maxHeartbeats 4000000 in
theorem b_X12_isIn_0 {z : amZ} {post : amP} {G : amG} {I : amI} {L : amL} (hz : Go z cX12_isIn RX12 6 (some .boolean) 0 0 0 post) (hG : Lay G) {v0 : Int64} {v2 : Int64} {v4 : Int64} (h : ((v0 < v2) → post (some (.int 0)) G I L) ∧ ((¬ v0 < v2) → ((v4 < v0) → post (some (.int 0)) G I L) ∧ ((¬ v4 < v0) → post (some (.int 1)) G I L))) : Wx z 0 0 0 [(0, .long v0), (2, .long v2), (4, .long v4)] [] G I L := by
  have hz1 := hz.1
  refine am_lload_n hz1 dX12_isIn_0 0 rfl rfl ?_
  refine am_lload_n hz1 dX12_isIn_1 1 rfl rfl ?_
  refine am_lif_lt (tgt := 17) hz1 dX12_isIn_2 dX12_isIn_3 (by decide) (fun c1 => ?_) (fun c1 => ?_)
  · replace h := h.1 c1
    refine am_iconst (v := 0) hz1 dX12_isIn_17 (by decide) ?_
    exact am_zreturn hz (by decide) dX12_isIn_18 h
  · replace h := h.2 c1
    refine am_lload_n hz1 dX12_isIn_6 0 rfl rfl ?_
    refine am_lload hz1 dX12_isIn_7 2 rfl ?_
    refine am_lif_gt (tgt := 17) hz1 dX12_isIn_9 dX12_isIn_10 (by decide) (fun c2 => ?_) (fun c2 => ?_)
    · replace h := h.1 c2
      refine am_iconst (v := 0) hz1 dX12_isIn_17 (by decide) ?_
      exact am_zreturn hz (by decide) dX12_isIn_18 h
    · replace h := h.2 c2
      refine am_iconst (v := 1) hz1 dX12_isIn_13 (by decide) ?_
      refine am_goto (tgt := 18) hz1 dX12_isIn_14 (by decide) ?_
      exact am_zreturn hz (by decide) dX12_isIn_18 h
set_option maxRecDepth 100000 in
set_option maxHeartbeats 4000000 in
theorem c_X12_isIn {l : Launch} {D : va_G} {B : Heap} {G : amG} {I : amI} {L : amL}  (hG : Lay G)  (v0 : Int64) (v2 : Int64) (v4 : Int64)  : Fx l D B yX12_isIn cX12_isIn 6 (some .boolean) 0 [.long v0, .long v2, .long v4] G I L (some (.int (bI (m_isIn v0 v2 v4)))) I L := by
  refine Mx.of (by decide) rfl rfl (fun z e1 e2 e3 hz => ?_)
  subst e1; subst e2; subst e3
  refine b_X12_isIn_0 hz hG ?_
  refine ⟨fun h => ⟨?_, rfl, rfl, rfl⟩, fun h => ⟨fun h2 => ⟨?_, rfl, rfl, rfl⟩, fun h2 => ⟨?_, rfl, rfl, rfl⟩⟩⟩
  · rw [m_isIn, decide_eq_false (not_not_intro h)]; rfl
  · rw [m_isIn, decide_eq_false (not_not_intro h2), Bool.and_false]; rfl
  · rw [m_isIn, decide_eq_true h, decide_eq_true h2]; rfl
set_option maxRecDepth 100000 in
set_option maxHeartbeats 4000000 in
theorem b_X12_has_0 {z : amZ} {post : amP} {G : amG} {I : amI} {L : amL} (hz : Go z cX12_has RX12 2 (some .boolean) 0 0 0 post) (hG : Lay G) {v0 : Int32} {v1 : Int32} (h : ((¬ ((v0 >>> (v1 &&& 31)) &&& (1 : Int32)) = (1 : Int32)) → post (some (.int 0)) G I L) ∧ ((((v0 >>> (v1 &&& 31)) &&& (1 : Int32)) = (1 : Int32)) → post (some (.int 1)) G I L)) : Wx z 0 0 0 [(0, .int v0), (1, .int v1)] [] G I L := by
  have hz1 := hz.1
  refine am_iload_n hz1 dX12_has_0 0 rfl rfl ?_
  refine am_iload_n hz1 dX12_has_1 1 rfl rfl ?_
  refine am_ishr hz1 dX12_has_2 ?_
  refine am_iconst (v := 1) hz1 dX12_has_3 (by decide) ?_
  refine am_iand hz1 dX12_has_4 ?_
  refine am_iconst (v := 1) hz1 dX12_has_5 (by decide) ?_
  refine am_icmp_ne (tgt := 13) hz1 dX12_has_6 (by decide) (fun c1 => ?_) (fun c1 => ?_)
  · replace h := h.1 c1
    refine am_iconst (v := 0) hz1 dX12_has_13 (by decide) ?_
    exact am_zreturn hz (by decide) dX12_has_14 h
  · replace h := h.2 c1
    refine am_iconst (v := 1) hz1 dX12_has_9 (by decide) ?_
    refine am_goto (tgt := 14) hz1 dX12_has_10 (by decide) ?_
    exact am_zreturn hz (by decide) dX12_has_14 h
set_option maxRecDepth 100000 in
set_option maxHeartbeats 4000000 in
theorem c_X12_has {l : Launch} {D : va_G} {B : Heap} {G : amG} {I : amI} {L : amL}  (hG : Lay G)  (v0 : Int32) (v1 : Int32)  : Fx l D B yX12_has cX12_has 2 (some .boolean) 0 [.int v0, .int v1] G I L (some (.int (bI (m_has v0 v1)))) I L := by
  refine Mx.of (by decide) rfl rfl (fun z e1 e2 e3 hz => ?_)
  subst e1; subst e2; subst e3
  refine b_X12_has_0 hz hG ?_
  refine ⟨fun h => ⟨?_, rfl, rfl, rfl⟩, fun h => ⟨?_, rfl, rfl, rfl⟩⟩
  · rw [m_has, decide_eq_false h]; rfl
  · rw [m_has, decide_eq_true h]; rfl
set_option maxRecDepth 100000 in
set_option maxHeartbeats 4000000 in
theorem b_X12_size_0 {z : amZ} {post : amP} {G : amG} {I : amI} {L : amL} (hz : Go z cX12_size RX12 3 (some .int) 0 0 0 post) (hG : Lay G) {v0 : Int32} (h : Wx z 0 0 4 [(1, .int 0), (2, .int v0)] [] G I L) : Wx z 0 0 0 [(0, .int v0)] [] G I L := by
  have hz1 := hz.1
  refine am_iconst (v := 0) hz1 dX12_size_0 (by decide) ?_
  refine am_istore_n (lv' := [(1, .int 0), (0, .int v0)]) hz1 dX12_size_1 rfl rfl rfl ?_
  refine am_iload_n hz1 dX12_size_2 1 rfl rfl ?_
  refine am_istore_n (lv' := [(2, .int v0), (1, .int 0), (0, .int v0)]) hz1 dX12_size_3 rfl rfl rfl ?_
  exact am_sub (lv' := [(1, .int 0), (2, .int v0)]) [1, 0] rfl h
set_option maxRecDepth 100000 in
set_option maxHeartbeats 4000000 in
theorem b_X12_size_4 {z : amZ} {post : amP} {G : amG} {I : amI} {L : amL} (hz : Go z cX12_size RX12 3 (some .int) 0 0 0 post) (hG : Lay G) {v1 : Int32} {v2 : Int32} (h : ((v2 = 0) → post (some (.int v1)) G I L) ∧ ((¬ v2 = 0) → Wx z 0 0 4 [(1, .int (v1 + 1)), (2, .int (v2 &&& (v2 - (1 : Int32))))] [] G I L)) : Wx z 0 0 4 [(1, .int v1), (2, .int v2)] [] G I L := by
  have hz1 := hz.1
  refine am_iload_n hz1 dX12_size_4 1 rfl rfl ?_
  refine am_if_eq (tgt := 20) hz1 dX12_size_5 (by decide) (fun c1 => ?_) (fun c1 => ?_)
  · replace h := h.1 c1
    refine am_iload_n hz1 dX12_size_20 0 rfl rfl ?_
    exact am_ireturn hz dX12_size_21 h
  · replace h := h.2 c1
    refine am_iinc (v := v1 + 1) (lv' := [(1, .int (v1 + 1)), (2, .int v2)]) hz1 dX12_size_8 0 rfl rfl rfl rfl ?_
    refine am_iload_n hz1 dX12_size_11 1 rfl rfl ?_
    refine am_iload_n hz1 dX12_size_12 1 rfl rfl ?_
    refine am_iconst (v := 1) hz1 dX12_size_13 (by decide) ?_
    refine am_isub hz1 dX12_size_14 ?_
    refine am_iand hz1 dX12_size_15 ?_
    refine am_istore_n (lv' := [(2, .int (v2 &&& (v2 - (1 : Int32)))), (1, .int (v1 + 1))]) hz1 dX12_size_16 rfl rfl rfl ?_
    refine am_goto (tgt := 4) hz1 dX12_size_17 (by decide) ?_
    exact am_sub (lv' := [(1, .int (v1 + 1)), (2, .int (v2 &&& (v2 - (1 : Int32))))]) [1, 0] rfl h
set_option maxRecDepth 100000 in
set_option maxHeartbeats 4000000 in
theorem c_X12_size {l : Launch} {D : va_G} {B : Heap} {G : amG} {I : amI} {L : amL}  (hG : Lay G)  (v0 : Int32) (hs : s16 v0) : Fx l D B yX12_size cX12_size 3 (some .int) 0 [.int v0] G I L (some (.int (m_size v0))) I L := by
  refine Mx.of (by decide) rfl rfl (fun z e1 e2 e3 hz => ?_)
  subst e1; subst e2; subst e3
  refine b_X12_size_0 hz hG ?_
  obtain ⟨k, hk, e, hb⟩ := set16 hs
  have hct : m_size v0 = nI (pcN k) := by
    rw [m_size, ← ct_tb]
    congr 1
    exact ct_cong fun i hi => (hb i (by omega)).symm
  have main : ∀ m w c, pcN w ≤ m → w < 65536 → c + pcN w = pcN k → Wx z 0 0 4 [(1, .int (nI c)), (2, .int (nI w))] [] G I L := by
    intro m
    induction m with
    | zero =>
      intro w c hm hw hc
      have h0 : w = 0 := by
        rcases Nat.eq_zero_or_pos w with g | g
        · exact g
        · have := pc_drop hw (by omega); omega
      subst h0
      refine b_X12_size_4 hz hG ⟨fun _ => ⟨?_, rfl, rfl, rfl⟩, fun h => absurd rfl h⟩
      rw [hct, ← hc]
      rfl
    | succ m ih =>
      intro w c hm hw hc
      refine b_X12_size_4 hz hG ⟨fun h => ⟨?_, rfl, rfl, rfl⟩, fun h => ?_⟩
      · have h0 : w = 0 := by
          rw [show (0 : Int32) = nI 0 from rfl, nI_eq (by omega) (by omega)] at h
          exact h
        subst h0
        rw [hct, ← hc]
        rfl
      · have h0 : w ≠ 0 := fun g => h (by rw [g]; rfl)
        have hd := pc_drop hw h0
        have hl : w &&& (w - 1) ≤ w := Nat.and_le_left
        obtain ⟨w', rfl⟩ : ∃ j, w = j + 1 := ⟨w - 1, by omega⟩
        rw [nI_1, nI_pred, nx_and]
        exact ih _ (c + 1) (by simp only [Nat.add_sub_cancel] at hd; omega) (by simp only [Nat.add_sub_cancel] at hl; omega) (by simp only [Nat.add_sub_cancel] at hd; omega)
  have := main (pcN k) k 0 (Nat.le_refl _) hk (by omega)
  rw [← e] at this
  exact this
set_option maxRecDepth 100000 in
set_option maxHeartbeats 4000000 in
theorem b_X12_many_0 {z : amZ} {post : amP} {G : amG} {I : amI} {L : amL} (hz : Go z cX12_many RX12 1 (some .int) 0 0 0 post) (hG : Lay G)  (h : post (some (.int ((L 65 (0 : Int32).toNatClampNeg).toInt32))) G I L) : Wx z 0 0 0 [(0, .ref ((zB z).size + 64))] [] G I L := by
  have hz1 := hz.1
  refine am_aload_n hz1 dX12_many_0 0 rfl rfl ?_
  refine am_getR hz1 fl_X12_9 (ln_64 hG) (lk_64 hG) (lr_64_0 hG) rfl dX12_many_1 ?_
  refine am_iconst (v := 0) hz1 dX12_many_4 (by decide) ?_
  refine am_lald hz1 (ln_65 hG) (lk_65 hG) (by rw [(ll_65 hG)]; exact in_nI (n := 0) (by decide) (by decide)) dX12_many_5 ?_
  refine am_l2i hz1 dX12_many_6 ?_
  exact am_ireturn hz dX12_many_7 h
set_option maxRecDepth 100000 in
set_option maxHeartbeats 4000000 in
theorem c_X12_many {l : Launch} {D : va_G} {B : Heap} {G : amG} {I : amI} {L : amL}  (hG : Lay G)    : Fx l D B yX12_many cX12_many 1 (some .int) 0 [.ref (B.size + 64)] G I L (some (.int (m_many L))) I L := by
  refine Mx.of (by decide) rfl rfl (fun z e1 e2 e3 hz => ?_)
  subst e1; subst e2; subst e3
  refine b_X12_many_0 hz hG ?_
  exact ⟨rfl, rfl, rfl, rfl⟩
set_option maxRecDepth 100000 in
set_option maxHeartbeats 4000000 in
theorem b_X12_up_0 {z : amZ} {post : amP} {G : amG} {I : amI} {L : amL} (hz : Go z cX12_up RX12 2 (some .int) 0 0 0 post) (hG : Lay G) {v1 : Int32} (h : vp_in ((1 : Int32) + v1) 1074 ∧ post (some (.int ((L 65 ((1 : Int32) + v1).toNatClampNeg).toInt32))) G I L) : Wx z 0 0 0 [(0, .ref ((zB z).size + 64)), (1, .int v1)] [] G I L := by
  have hz1 := hz.1
  refine am_aload_n hz1 dX12_up_0 0 rfl rfl ?_
  refine am_getR hz1 fl_X12_9 (ln_64 hG) (lk_64 hG) (lr_64_0 hG) rfl dX12_up_1 ?_
  refine am_iconst (v := 1) hz1 dX12_up_4 (by decide) ?_
  refine am_iload_n hz1 dX12_up_5 1 rfl rfl ?_
  refine am_iadd hz1 dX12_up_6 ?_
  obtain ⟨g1, h⟩ := h
  refine am_lald hz1 (ln_65 hG) (lk_65 hG) (by rw [(ll_65 hG)]; exact g1) dX12_up_7 ?_
  refine am_l2i hz1 dX12_up_8 ?_
  exact am_ireturn hz dX12_up_9 h
set_option maxRecDepth 100000 in
set_option maxHeartbeats 4000000 in
theorem c_X12_up {l : Launch} {D : va_G} {B : Heap} {G : amG} {I : amI} {L : amL}  (hG : Lay G)  (v1 : Int32) (hi : vp_in v1 16) : Fx l D B yX12_up cX12_up 2 (some .int) 0 [.ref (B.size + 64), .int v1] G I L (some (.int (m_up L v1))) I L := by
  refine Mx.of (by decide) rfl rfl (fun z e1 e2 e3 hz => ?_)
  subst e1; subst e2; subst e3
  refine b_X12_up_0 hz hG ?_
  obtain ⟨a, ha, rfl⟩ := vp_in_of hi (by decide)
  exact ⟨by rw [show (1 : Int32) = nI 1 from rfl, nI_add]; exact in_nI (by omega) (by decide), rfl, rfl, rfl, rfl⟩
set_option maxRecDepth 100000 in
set_option maxHeartbeats 4000000 in
theorem b_X12_isElement_0 {z : amZ} {post : amP} {G : amG} {I : amI} {L : amL} (hz : Go z cX12_isElement RX12 2 (some .boolean) 1 0 0 post) (hG : Lay G) {v1 : Int32} (h : post (some (.int (bI (m_isIn v1.toInt64 (0 : Int64) (((m_many L) - (1 : Int32)).toInt64))))) G I L) : Wx z 0 0 0 [(0, .ref ((zB z).size + 64)), (1, .int v1)] [] G I L := by
  have hz1 := hz.1
  refine am_iload_n hz1 dX12_isElement_0 1 rfl rfl ?_
  refine am_i2l hz1 dX12_isElement_1 ?_
  refine am_lconst (v := 0) hz1 dX12_isElement_2 (by decide) ?_
  refine am_aload_n hz1 dX12_isElement_3 0 rfl rfl ?_
  refine am_cVf hz cv_X12_78 [] [.long (0 : Int64), .long v1.toInt64] (c_X12_many hG  ) (ln_64 hG) (lk_64 hG) rfl rfl rfl ⟨Nat.le_refl _, Nat.le_refl _⟩ (Nat.le_of_ble_eq_true rfl) dX12_isElement_4 ?_
  refine am_iconst (v := 1) hz1 dX12_isElement_7 (by decide) ?_
  refine am_isub hz1 dX12_isElement_8 ?_
  refine am_i2l hz1 dX12_isElement_9 ?_
  refine am_cSf hz ct_X12_82 [.long v1.toInt64, .long (0 : Int64), .long (((m_many L) - (1 : Int32)).toInt64)] [] (c_X12_isIn hG v1.toInt64 (0 : Int64) (((m_many L) - (1 : Int32)).toInt64) ) rfl rfl rfl ⟨Nat.le_refl _, Nat.le_refl _⟩ (Nat.le_of_ble_eq_true rfl) dX12_isElement_10 ?_
  exact am_zreturn hz (bI_01 _) dX12_isElement_13 h
set_option maxRecDepth 100000 in
set_option maxHeartbeats 4000000 in
theorem c_X12_isElement {l : Launch} {D : va_G} {B : Heap} {G : amG} {I : amI} {L : amL}  (hG : Lay G)  (v1 : Int32)  : Fx l D B yX12_isElement cX12_isElement 2 (some .boolean) 1 [.ref (B.size + 64), .int v1] G I L (some (.int (bI (m_el L v1)))) I L := by
  refine Mx.of (by decide) rfl rfl (fun z e1 e2 e3 hz => ?_)
  subst e1; subst e2; subst e3
  refine b_X12_isElement_0 hz hG ?_
  exact ⟨rfl, rfl, rfl, rfl⟩
set_option maxRecDepth 100000 in
set_option maxHeartbeats 4000000 in
theorem b_X12_isAtMost_0 {z : amZ} {post : amP} {G : amG} {I : amI} {L : amL} (hz : Go z cX12_isAtMost RX12 3 (some .boolean) 1 0 0 post) (hG : Lay G) {v1 : Int32} {v2 : Int32} (h : (vp_in v1 16) ∧ post (some (.int (bI (m_has (m_up L v1) v2)))) G I L) : Wx z 0 0 0 [(0, .ref ((zB z).size + 64)), (1, .int v1), (2, .int v2)] [] G I L := by
  have hz1 := hz.1
  refine am_aload_n hz1 dX12_isAtMost_0 0 rfl rfl ?_
  refine am_iload_n hz1 dX12_isAtMost_1 1 rfl rfl ?_
  obtain ⟨g1, h⟩ := h
  refine am_cVf hz cv_X12_86 [.int v1] [] (c_X12_up hG v1 g1) (ln_64 hG) (lk_64 hG) rfl rfl rfl ⟨Nat.le_refl _, Nat.le_refl _⟩ (Nat.le_of_ble_eq_true rfl) dX12_isAtMost_2 ?_
  refine am_iload_n hz1 dX12_isAtMost_5 2 rfl rfl ?_
  refine am_cSf hz ct_X12_90 [.int (m_up L v1), .int v2] [] (c_X12_has hG (m_up L v1) v2 ) rfl rfl rfl ⟨Nat.le_refl _, Nat.le_refl _⟩ (Nat.le_of_ble_eq_true rfl) dX12_isAtMost_6 ?_
  exact am_zreturn hz (bI_01 _) dX12_isAtMost_9 h
set_option maxRecDepth 100000 in
set_option maxHeartbeats 4000000 in
theorem c_X12_isAtMost {l : Launch} {D : va_G} {B : Heap} {G : amG} {I : amI} {L : amL}  (hG : Lay G)  (v1 : Int32) (v2 : Int32) (hi : vp_in v1 16) : Fx l D B yX12_isAtMost cX12_isAtMost 3 (some .boolean) 1 [.ref (B.size + 64), .int v1, .int v2] G I L (some (.int (bI (m_am L v1 v2)))) I L := by
  refine Mx.of (by decide) rfl rfl (fun z e1 e2 e3 hz => ?_)
  subst e1; subst e2; subst e3
  refine b_X12_isAtMost_0 hz hG ?_
  exact ⟨hi, rfl, rfl, rfl, rfl⟩
set_option maxRecDepth 100000 in
set_option maxHeartbeats 4000000 in
theorem b_X12_isBelow_0 {z : amZ} {post : amP} {G : amG} {I : amI} {L : amL} (hz : Go z cX12_isBelow RX12 3 (some .boolean) 2 0 0 post) (hG : Lay G) {v1 : Int32} {v2 : Int32} (h : ((v1 = v2) → post (some (.int 0)) G I L) ∧ ((¬ v1 = v2) → (vp_in v1 16) ∧ ((m_am L v1 v2 = false) → post (some (.int 0)) G I L) ∧ ((m_am L v1 v2 = true) → post (some (.int 1)) G I L))) : Wx z 0 0 0 [(0, .ref ((zB z).size + 64)), (1, .int v1), (2, .int v2)] [] G I L := by
  have hz1 := hz.1
  refine am_iload_n hz1 dX12_isBelow_0 1 rfl rfl ?_
  refine am_iload_n hz1 dX12_isBelow_1 2 rfl rfl ?_
  refine am_icmp_eq (tgt := 18) hz1 dX12_isBelow_2 (by decide) (fun c1 => ?_) (fun c1 => ?_)
  · replace h := h.1 c1
    refine am_iconst (v := 0) hz1 dX12_isBelow_18 (by decide) ?_
    exact am_zreturn hz (by decide) dX12_isBelow_19 h
  · replace h := h.2 c1
    refine am_aload_n hz1 dX12_isBelow_5 0 rfl rfl ?_
    refine am_iload_n hz1 dX12_isBelow_6 1 rfl rfl ?_
    refine am_iload_n hz1 dX12_isBelow_7 2 rfl rfl ?_
    obtain ⟨g2, h⟩ := h
    refine am_cVf hz cv_X12_94 [.int v1, .int v2] [] (c_X12_isAtMost hG v1 v2 g2) (ln_64 hG) (lk_64 hG) rfl rfl rfl ⟨Nat.le_refl _, Nat.le_refl _⟩ (Nat.le_of_ble_eq_true rfl) dX12_isBelow_8 ?_
    refine am_ifb_eq (tgt := 18) hz1 dX12_isBelow_11 (by decide) (fun c3 => ?_) (fun c3 => ?_)
    · replace h := h.1 c3
      refine am_iconst (v := 0) hz1 dX12_isBelow_18 (by decide) ?_
      exact am_zreturn hz (by decide) dX12_isBelow_19 h
    · replace h := h.2 c3
      refine am_iconst (v := 1) hz1 dX12_isBelow_14 (by decide) ?_
      refine am_goto (tgt := 19) hz1 dX12_isBelow_15 (by decide) ?_
      exact am_zreturn hz (by decide) dX12_isBelow_19 h
set_option maxRecDepth 100000 in
set_option maxHeartbeats 4000000 in
theorem c_X12_isBelow {l : Launch} {D : va_G} {B : Heap} {G : amG} {I : amI} {L : amL}  (hG : Lay G)  (v1 : Int32) (v2 : Int32) (hi : vp_in v1 16) : Fx l D B yX12_isBelow cX12_isBelow 3 (some .boolean) 2 [.ref (B.size + 64), .int v1, .int v2] G I L (some (.int (bI (m_bl L v1 v2)))) I L := by
  refine Mx.of (by decide) rfl rfl (fun z e1 e2 e3 hz => ?_)
  subst e1; subst e2; subst e3
  refine b_X12_isBelow_0 hz hG ?_
  refine ⟨fun h => ⟨?_, rfl, rfl, rfl⟩, fun h => ⟨hi, fun h2 => ⟨?_, rfl, rfl, rfl⟩, fun h2 => ⟨?_, rfl, rfl, rfl⟩⟩⟩
  · rw [m_bl, decide_eq_false (not_not_intro h)]; rfl
  · rw [m_bl, h2, Bool.and_false]; rfl
  · rw [m_bl, h2, decide_eq_true h]; rfl
set_option maxRecDepth 100000 in
set_option maxHeartbeats 4000000 in
theorem b_X12_down_0 {z : amZ} {post : amP} {G : amG} {I : amI} {L : amL} (hz : Go z cX12_down RX12 4 (some .int) 2 0 0 post) (hG : Lay G) {v1 : Int32} (h : Wx z 0 0 4 [(0, .ref ((zB z).size + 64)), (1, .int v1), (2, .int 0), (3, .int 0)] [] G I L) : Wx z 0 0 0 [(0, .ref ((zB z).size + 64)), (1, .int v1)] [] G I L := by
  have hz1 := hz.1
  refine am_iconst (v := 0) hz1 dX12_down_0 (by decide) ?_
  refine am_istore_n (lv' := [(2, .int 0), (0, .ref ((zB z).size + 64)), (1, .int v1)]) hz1 dX12_down_1 rfl rfl rfl ?_
  refine am_iconst (v := 0) hz1 dX12_down_2 (by decide) ?_
  refine am_istore_n (lv' := [(3, .int 0), (2, .int 0), (0, .ref ((zB z).size + 64)), (1, .int v1)]) hz1 dX12_down_3 rfl rfl rfl ?_
  exact am_sub (lv' := [(0, .ref ((zB z).size + 64)), (1, .int v1), (2, .int 0), (3, .int 0)]) [2, 3, 1, 0] rfl h
set_option maxRecDepth 100000 in
set_option maxHeartbeats 4000000 in
theorem b_X12_down_4 {z : amZ} {post : amP} {G : amG} {I : amI} {L : amL} (hz : Go z cX12_down RX12 4 (some .int) 2 0 0 post) (hG : Lay G) {v1 : Int32} {v2 : Int32} {v3 : Int32} (h : (((m_many L) ≤ v3) → post (some (.int v2)) G I L) ∧ ((¬ (m_many L) ≤ v3) → (vp_in v3 16) ∧ ((m_am L v3 v1 = false) → Wx z 0 0 4 [(0, .ref ((zB z).size + 64)), (1, .int v1), (2, .int (v2 ||| (0 : Int32))), (3, .int (v3 + 1))] [] G I L) ∧ ((m_am L v3 v1 = true) → Wx z 0 0 4 [(0, .ref ((zB z).size + 64)), (1, .int v1), (2, .int (v2 ||| ((1 : Int32) <<< (v3 &&& 31)))), (3, .int (v3 + 1))] [] G I L))) : Wx z 0 0 4 [(0, .ref ((zB z).size + 64)), (1, .int v1), (2, .int v2), (3, .int v3)] [] G I L := by
  have hz1 := hz.1
  refine am_iload_n hz1 dX12_down_4 3 rfl rfl ?_
  refine am_aload_n hz1 dX12_down_5 0 rfl rfl ?_
  refine am_cVf hz cv_X12_78 [] [.int v3] (c_X12_many hG  ) (ln_64 hG) (lk_64 hG) rfl rfl rfl ⟨Nat.le_refl _, Nat.le_refl _⟩ (Nat.le_of_ble_eq_true rfl) dX12_down_6 ?_
  refine am_icmp_ge (tgt := 37) hz1 dX12_down_9 (by decide) (fun c1 => ?_) (fun c1 => ?_)
  · replace h := h.1 c1
    refine am_iload_n hz1 dX12_down_37 2 rfl rfl ?_
    exact am_ireturn hz dX12_down_38 h
  · replace h := h.2 c1
    refine am_iload_n hz1 dX12_down_12 2 rfl rfl ?_
    refine am_aload_n hz1 dX12_down_13 0 rfl rfl ?_
    refine am_iload_n hz1 dX12_down_14 3 rfl rfl ?_
    refine am_iload_n hz1 dX12_down_15 1 rfl rfl ?_
    obtain ⟨g2, h⟩ := h
    refine am_cVf hz cv_X12_94 [.int v3, .int v1] [.int v2] (c_X12_isAtMost hG v3 v1 g2) (ln_64 hG) (lk_64 hG) rfl rfl rfl ⟨Nat.le_refl _, Nat.le_refl _⟩ (Nat.le_of_ble_eq_true rfl) dX12_down_16 ?_
    refine am_ifb_eq (tgt := 28) hz1 dX12_down_19 (by decide) (fun c3 => ?_) (fun c3 => ?_)
    · replace h := h.1 c3
      refine am_iconst (v := 0) hz1 dX12_down_28 (by decide) ?_
      refine am_ior hz1 dX12_down_29 ?_
      refine am_istore_n (lv' := [(2, .int (v2 ||| (0 : Int32))), (0, .ref ((zB z).size + 64)), (1, .int v1), (3, .int v3)]) hz1 dX12_down_30 rfl rfl rfl ?_
      refine am_iinc (v := v3 + 1) (lv' := [(3, .int (v3 + 1)), (2, .int (v2 ||| (0 : Int32))), (0, .ref ((zB z).size + 64)), (1, .int v1)]) hz1 dX12_down_31 3 rfl rfl rfl rfl ?_
      refine am_goto (tgt := 4) hz1 dX12_down_34 (by decide) ?_
      exact am_sub (lv' := [(0, .ref ((zB z).size + 64)), (1, .int v1), (2, .int (v2 ||| (0 : Int32))), (3, .int (v3 + 1))]) [2, 3, 1, 0] rfl h
    · replace h := h.2 c3
      refine am_iconst (v := 1) hz1 dX12_down_22 (by decide) ?_
      refine am_iload_n hz1 dX12_down_23 3 rfl rfl ?_
      refine am_ishl hz1 dX12_down_24 ?_
      refine am_goto (tgt := 29) hz1 dX12_down_25 (by decide) ?_
      refine am_ior hz1 dX12_down_29 ?_
      refine am_istore_n (lv' := [(2, .int (v2 ||| ((1 : Int32) <<< (v3 &&& 31)))), (0, .ref ((zB z).size + 64)), (1, .int v1), (3, .int v3)]) hz1 dX12_down_30 rfl rfl rfl ?_
      refine am_iinc (v := v3 + 1) (lv' := [(3, .int (v3 + 1)), (2, .int (v2 ||| ((1 : Int32) <<< (v3 &&& 31)))), (0, .ref ((zB z).size + 64)), (1, .int v1)]) hz1 dX12_down_31 3 rfl rfl rfl rfl ?_
      refine am_goto (tgt := 4) hz1 dX12_down_34 (by decide) ?_
      exact am_sub (lv' := [(0, .ref ((zB z).size + 64)), (1, .int v1), (2, .int (v2 ||| ((1 : Int32) <<< (v3 &&& 31)))), (3, .int (v3 + 1))]) [2, 3, 1, 0] rfl h
set_option maxRecDepth 100000 in
set_option maxHeartbeats 4000000 in
theorem c_X12_down {l : Launch} {D : va_G} {B : Heap} {G : amG} {I : amI} {L : amL}  (hG : Lay G)  (v1 : Int32) (hM : mOk L) : Fx l D B yX12_down cX12_down 4 (some .int) 2 [.ref (B.size + 64), .int v1] G I L (some (.int (m_dn L v1))) I L := by
  refine Mx.of (by decide) rfl rfl (fun z e1 e2 e3 hz => ?_)
  subst e1; subst e2; subst e3
  refine b_X12_down_0 hz hG ?_
  obtain ⟨n, A, hM⟩ := hM
  have h16 := hM.2.1
  refine for_up (P := fun i => Wx z 0 0 4 [(0, .ref ((zB z).size + 64)), (1, .int v1), (2, .int (mkset (fun a => m_am L (nI a) v1) i)), (3, .int (nI i))] [] G I L) (n := n) ?_ ?_ (Nat.zero_le n)
  · exact b_X12_down_4 hz hG ⟨fun _ => ⟨by rw [m_dn, hM.N], rfl, rfl, rfl⟩, fun h => absurd (mm_le hM) h⟩
  · intro i hi ih
    refine b_X12_down_4 hz hG ⟨fun h => absurd h (mm_ge hM hi), fun _ => ⟨in16 h16 hi, fun h => ?_, fun h => ?_⟩⟩
    · rw [mkset, if_neg (by rw [h]; decide)] at ih
      rw [nI_1]
      exact ih
    · rw [mkset, if_pos h] at ih
      rw [nI_1]
      exact ih
set_option maxRecDepth 100000 in
set_option maxHeartbeats 4000000 in
theorem b_X12_interval_0 {z : amZ} {post : amP} {G : amG} {I : amI} {L : amL} (hz : Go z cX12_interval RX12 3 (some .int) 3 0 0 post) (hG : Lay G) {v1 : Int32} {v2 : Int32} (h : (vp_in v1 16) ∧ ((m_am L v1 v2 = false) → post (some (.int 0)) G I L) ∧ ((m_am L v1 v2 = true) → (vp_in v1 16) ∧ (mOk L) ∧ post (some (.int ((m_up L v1) &&& (m_dn L v2)))) G I L)) : Wx z 0 0 0 [(0, .ref ((zB z).size + 64)), (1, .int v1), (2, .int v2)] [] G I L := by
  have hz1 := hz.1
  refine am_aload_n hz1 dX12_interval_0 0 rfl rfl ?_
  refine am_iload_n hz1 dX12_interval_1 1 rfl rfl ?_
  refine am_iload_n hz1 dX12_interval_2 2 rfl rfl ?_
  obtain ⟨g1, h⟩ := h
  refine am_cVf hz cv_X12_94 [.int v1, .int v2] [] (c_X12_isAtMost hG v1 v2 g1) (ln_64 hG) (lk_64 hG) rfl rfl rfl ⟨Nat.le_refl _, Nat.le_refl _⟩ (Nat.le_of_ble_eq_true rfl) dX12_interval_3 ?_
  refine am_ifb_eq (tgt := 23) hz1 dX12_interval_6 (by decide) (fun c2 => ?_) (fun c2 => ?_)
  · replace h := h.1 c2
    refine am_iconst (v := 0) hz1 dX12_interval_23 (by decide) ?_
    exact am_ireturn hz dX12_interval_24 h
  · replace h := h.2 c2
    refine am_aload_n hz1 dX12_interval_9 0 rfl rfl ?_
    refine am_iload_n hz1 dX12_interval_10 1 rfl rfl ?_
    obtain ⟨g3, h⟩ := h
    refine am_cVf hz cv_X12_86 [.int v1] [] (c_X12_up hG v1 g3) (ln_64 hG) (lk_64 hG) rfl rfl rfl ⟨Nat.le_refl _, Nat.le_refl _⟩ (Nat.le_of_ble_eq_true rfl) dX12_interval_11 ?_
    refine am_aload_n hz1 dX12_interval_14 0 rfl rfl ?_
    refine am_iload_n hz1 dX12_interval_15 2 rfl rfl ?_
    obtain ⟨g4, h⟩ := h
    refine am_cVf hz cv_X12_97 [.int v2] [.int (m_up L v1)] (c_X12_down hG v2 g4) (ln_64 hG) (lk_64 hG) rfl rfl rfl ⟨Nat.le_refl _, Nat.le_refl _⟩ (Nat.le_of_ble_eq_true rfl) dX12_interval_16 ?_
    refine am_iand hz1 dX12_interval_19 ?_
    refine am_goto (tgt := 24) hz1 dX12_interval_20 (by decide) ?_
    exact am_ireturn hz dX12_interval_24 h
set_option maxRecDepth 100000 in
set_option maxHeartbeats 4000000 in
theorem c_X12_interval {l : Launch} {D : va_G} {B : Heap} {G : amG} {I : amI} {L : amL}  (hG : Lay G)  (v1 : Int32) (v2 : Int32) (hM : mOk L) (hi : vp_in v1 16) : Fx l D B yX12_interval cX12_interval 3 (some .int) 3 [.ref (B.size + 64), .int v1, .int v2] G I L (some (.int (m_iv L v1 v2))) I L := by
  refine Mx.of (by decide) rfl rfl (fun z e1 e2 e3 hz => ?_)
  subst e1; subst e2; subst e3
  refine b_X12_interval_0 hz hG ?_
  refine ⟨hi, fun h => ⟨by rw [m_iv, if_neg (by rw [h]; decide)], rfl, rfl, rfl⟩, fun h => ⟨hi, hM, by rw [m_iv, if_pos h], rfl, rfl, rfl⟩⟩
theorem el_in {L : amL} (h : mOk L) {a : Int32} (he : m_el L a = true) : vp_in a 16 ∧ ∃ x, x < mN L ∧ a = nI x := by
  obtain ⟨n, A, hM⟩ := h
  have h16 := hM.2.1
  have h1 := hM.1
  rw [m_el, m_isIn, Bool.and_eq_true, decide_eq_true_eq, decide_eq_true_eq, hM.many] at he
  obtain ⟨e1, e2⟩ := he
  obtain ⟨m, rfl⟩ : ∃ j, n = j + 1 := ⟨n - 1, by omega⟩
  rw [nI_pred] at e2
  rw [Int64.lt_iff_toInt_lt, Int32.toInt_toInt64] at e1
  rw [Int64.lt_iff_toInt_lt, Int32.toInt_toInt64, Int32.toInt_toInt64, nI_toInt (by omega)] at e2
  have e1' : 0 ≤ a.toInt := by simpa using e1
  have hv : vp_in a (m + 1) := vp_in_iff.mpr ⟨e1', by omega⟩
  obtain ⟨x, hx, rfl⟩ := vp_in_of hv (by omega)
  exact ⟨in_nI (by omega) (by decide), x, by rw [hM.N]; exact hx, rfl⟩
theorem el_of {L : amL} {n : Nat} {A : Nat → Int32} (hM : MO L n A) {x : Nat} (hx : x < n) : m_el L (nI x) = true := by
  have h16 := hM.2.1
  rw [m_el, m_isIn, Bool.and_eq_true, decide_eq_true_eq, decide_eq_true_eq, hM.many]
  obtain ⟨m, rfl⟩ : ∃ j, n = j + 1 := ⟨n - 1, by omega⟩
  rw [nI_pred]
  refine ⟨?_, ?_⟩
  · rw [Int64.lt_iff_toInt_lt, Int32.toInt_toInt64, nI_toInt (by omega)]
    simp
  · rw [Int64.lt_iff_toInt_lt, Int32.toInt_toInt64, Int32.toInt_toInt64, nI_toInt (by omega), nI_toInt (by omega)]
    omega
set_option maxRecDepth 100000 in
set_option maxHeartbeats 4000000 in
theorem b_X12_isInterval_0 {z : amZ} {post : amP} {G : amG} {I : amI} {L : amL} (hz : Go z cX12_isInterval RX12 3 (some .boolean) 2 0 0 post) (hG : Lay G) {v1 : Int32} {v2 : Int32} (h : ((m_el L v1 = false) → post (some (.int 0)) G I L) ∧ ((m_el L v1 = true) → ((m_el L v2 = false) → post (some (.int 0)) G I L) ∧ ((m_el L v2 = true) → (vp_in v1 16) ∧ ((m_am L v1 v2 = false) → post (some (.int 0)) G I L) ∧ ((m_am L v1 v2 = true) → post (some (.int 1)) G I L)))) : Wx z 0 0 0 [(0, .ref ((zB z).size + 64)), (1, .int v1), (2, .int v2)] [] G I L := by
  have hz1 := hz.1
  refine am_aload_n hz1 dX12_isInterval_0 0 rfl rfl ?_
  refine am_iload_n hz1 dX12_isInterval_1 1 rfl rfl ?_
  refine am_cVf hz cv_X12_100 [.int v1] [] (c_X12_isElement hG v1 ) (ln_64 hG) (lk_64 hG) rfl rfl rfl ⟨Nat.le_refl _, Nat.le_refl _⟩ (Nat.le_of_ble_eq_true rfl) dX12_isInterval_2 ?_
  refine am_ifb_eq (tgt := 29) hz1 dX12_isInterval_5 (by decide) (fun c1 => ?_) (fun c1 => ?_)
  · replace h := h.1 c1
    refine am_iconst (v := 0) hz1 dX12_isInterval_29 (by decide) ?_
    exact am_zreturn hz (by decide) dX12_isInterval_30 h
  · replace h := h.2 c1
    refine am_aload_n hz1 dX12_isInterval_8 0 rfl rfl ?_
    refine am_iload_n hz1 dX12_isInterval_9 2 rfl rfl ?_
    refine am_cVf hz cv_X12_100 [.int v2] [] (c_X12_isElement hG v2 ) (ln_64 hG) (lk_64 hG) rfl rfl rfl ⟨Nat.le_refl _, Nat.le_refl _⟩ (Nat.le_of_ble_eq_true rfl) dX12_isInterval_10 ?_
    refine am_ifb_eq (tgt := 29) hz1 dX12_isInterval_13 (by decide) (fun c2 => ?_) (fun c2 => ?_)
    · replace h := h.1 c2
      refine am_iconst (v := 0) hz1 dX12_isInterval_29 (by decide) ?_
      exact am_zreturn hz (by decide) dX12_isInterval_30 h
    · replace h := h.2 c2
      refine am_aload_n hz1 dX12_isInterval_16 0 rfl rfl ?_
      refine am_iload_n hz1 dX12_isInterval_17 1 rfl rfl ?_
      refine am_iload_n hz1 dX12_isInterval_18 2 rfl rfl ?_
      obtain ⟨g3, h⟩ := h
      refine am_cVf hz cv_X12_94 [.int v1, .int v2] [] (c_X12_isAtMost hG v1 v2 g3) (ln_64 hG) (lk_64 hG) rfl rfl rfl ⟨Nat.le_refl _, Nat.le_refl _⟩ (Nat.le_of_ble_eq_true rfl) dX12_isInterval_19 ?_
      refine am_ifb_eq (tgt := 29) hz1 dX12_isInterval_22 (by decide) (fun c4 => ?_) (fun c4 => ?_)
      · replace h := h.1 c4
        refine am_iconst (v := 0) hz1 dX12_isInterval_29 (by decide) ?_
        exact am_zreturn hz (by decide) dX12_isInterval_30 h
      · replace h := h.2 c4
        refine am_iconst (v := 1) hz1 dX12_isInterval_25 (by decide) ?_
        refine am_goto (tgt := 30) hz1 dX12_isInterval_26 (by decide) ?_
        exact am_zreturn hz (by decide) dX12_isInterval_30 h
set_option maxRecDepth 100000 in
set_option maxHeartbeats 4000000 in
theorem c_X12_isInterval {l : Launch} {D : va_G} {B : Heap} {G : amG} {I : amI} {L : amL}  (hG : Lay G)  (v1 : Int32) (v2 : Int32) (hM : mOk L) : Fx l D B yX12_isInterval cX12_isInterval 3 (some .boolean) 2 [.ref (B.size + 64), .int v1, .int v2] G I L (some (.int (bI (m_isiv L v1 v2)))) I L := by
  refine Mx.of (by decide) rfl rfl (fun z e1 e2 e3 hz => ?_)
  subst e1; subst e2; subst e3
  refine b_X12_isInterval_0 hz hG ?_
  refine ⟨fun h => ⟨?_, rfl, rfl, rfl⟩, fun h => ⟨fun h2 => ⟨?_, rfl, rfl, rfl⟩, fun h2 => ⟨(el_in hM h).1, fun h3 => ⟨?_, rfl, rfl, rfl⟩, fun h3 => ⟨?_, rfl, rfl, rfl⟩⟩⟩⟩
  all_goals simp [m_isiv, bI, *]
set_option maxRecDepth 100000 in
set_option maxHeartbeats 4000000 in
theorem b_X12_isCover_0 {z : amZ} {post : amP} {G : amG} {I : amI} {L : amL} (hz : Go z cX12_isCover RX12 3 (some .boolean) 4 0 0 post) (hG : Lay G) {v1 : Int32} {v2 : Int32} (h : (vp_in v1 16) ∧ ((m_bl L v1 v2 = false) → post (some (.int 0)) G I L) ∧ ((m_bl L v1 v2 = true) → (mOk L) ∧ (vp_in v1 16) ∧ (s16 (m_iv L v1 v2)) ∧ ((¬ (m_size (m_iv L v1 v2)) = (2 : Int32)) → post (some (.int 0)) G I L) ∧ (((m_size (m_iv L v1 v2)) = (2 : Int32)) → post (some (.int 1)) G I L))) : Wx z 0 0 0 [(0, .ref ((zB z).size + 64)), (1, .int v1), (2, .int v2)] [] G I L := by
  have hz1 := hz.1
  refine am_aload_n hz1 dX12_isCover_0 0 rfl rfl ?_
  refine am_iload_n hz1 dX12_isCover_1 1 rfl rfl ?_
  refine am_iload_n hz1 dX12_isCover_2 2 rfl rfl ?_
  obtain ⟨g1, h⟩ := h
  refine am_cVf hz cv_X12_104 [.int v1, .int v2] [] (c_X12_isBelow hG v1 v2 g1) (ln_64 hG) (lk_64 hG) rfl rfl rfl ⟨Nat.le_refl _, Nat.le_refl _⟩ (Nat.le_of_ble_eq_true rfl) dX12_isCover_3 ?_
  refine am_ifb_eq (tgt := 26) hz1 dX12_isCover_6 (by decide) (fun c2 => ?_) (fun c2 => ?_)
  · replace h := h.1 c2
    refine am_iconst (v := 0) hz1 dX12_isCover_26 (by decide) ?_
    exact am_zreturn hz (by decide) dX12_isCover_27 h
  · replace h := h.2 c2
    refine am_aload_n hz1 dX12_isCover_9 0 rfl rfl ?_
    refine am_iload_n hz1 dX12_isCover_10 1 rfl rfl ?_
    refine am_iload_n hz1 dX12_isCover_11 2 rfl rfl ?_
    obtain ⟨g3, h⟩ := h
    obtain ⟨g4, h⟩ := h
    refine am_cVf hz cv_X12_107 [.int v1, .int v2] [] (c_X12_interval hG v1 v2 g3 g4) (ln_64 hG) (lk_64 hG) rfl rfl rfl ⟨Nat.le_refl _, Nat.le_refl _⟩ (Nat.le_of_ble_eq_true rfl) dX12_isCover_12 ?_
    obtain ⟨g5, h⟩ := h
    refine am_cSf hz ct_X12_111 [.int (m_iv L v1 v2)] [] (c_X12_size hG (m_iv L v1 v2) g5) rfl rfl rfl ⟨Nat.le_refl _, Nat.le_refl _⟩ (Nat.le_of_ble_eq_true rfl) dX12_isCover_15 ?_
    refine am_iconst (v := 2) hz1 dX12_isCover_18 (by decide) ?_
    refine am_icmp_ne (tgt := 26) hz1 dX12_isCover_19 (by decide) (fun c6 => ?_) (fun c6 => ?_)
    · replace h := h.1 c6
      refine am_iconst (v := 0) hz1 dX12_isCover_26 (by decide) ?_
      exact am_zreturn hz (by decide) dX12_isCover_27 h
    · replace h := h.2 c6
      refine am_iconst (v := 1) hz1 dX12_isCover_22 (by decide) ?_
      refine am_goto (tgt := 27) hz1 dX12_isCover_23 (by decide) ?_
      exact am_zreturn hz (by decide) dX12_isCover_27 h
set_option maxRecDepth 100000 in
set_option maxHeartbeats 4000000 in
theorem c_X12_isCover {l : Launch} {D : va_G} {B : Heap} {G : amG} {I : amI} {L : amL}  (hG : Lay G)  (v1 : Int32) (v2 : Int32) (hM : mOk L) (hi : vp_in v1 16) : Fx l D B yX12_isCover cX12_isCover 3 (some .boolean) 4 [.ref (B.size + 64), .int v1, .int v2] G I L (some (.int (bI (m_cov L v1 v2)))) I L := by
  refine Mx.of (by decide) rfl rfl (fun z e1 e2 e3 hz => ?_)
  subst e1; subst e2; subst e3
  refine b_X12_isCover_0 hz hG ?_
  refine ⟨hi, fun h => ⟨?_, rfl, rfl, rfl⟩, fun h => ⟨hM, hi, m_iv_16 hM, fun h3 => ⟨?_, rfl, rfl, rfl⟩, fun h3 => ⟨?_, rfl, rfl, rfl⟩⟩⟩
  · rw [m_cov, h]; rfl
  · rw [m_cov, h, decide_eq_false h3]; rfl
  · rw [m_cov, h, decide_eq_true h3]; rfl
def cntI (c : Nat → Bool) : Nat → Int32
  | 0 => 0
  | n + 1 => if c n = true then cntI c n + 1 else cntI c n
/-- how many of a table, row by row, added to what is there -/
def cnt2 (c : Nat → Nat → Bool) (n : Nat) : Nat → Int32
  | 0 => 0
  | a + 1 => addC (c a) (cnt2 c n a) n
where addC (c : Nat → Bool) (b : Int32) : Nat → Int32
  | 0 => b
  | k + 1 => if c k = true then addC c b k + 1 else addC c b k
def m_covers (L : amL) : Int32 := cnt2 (fun a b => m_cov L (nI a) (nI b)) (mN L) (mN L)
def m_cset (L : amL) (a : Int32) : Int32 := mkset (fun b => m_cov L a (nI b)) (mN L)
def m_dset (L : amL) (b : Int32) : Int32 := mkset (fun a => m_cov L (nI a) b) (mN L)
def m_least (L : amL) (s : Int32) : Int32 := scan (fun a => m_has s (nI a) && decide (s &&& (m_up L (nI a) ^^^ (-1)) = 0)) nI (-2) (mN L) 0
def m_great (L : amL) (s : Int32) : Int32 := scan (fun a => m_has s (nI a) && decide (s &&& (m_dn L (nI a) ^^^ (-1)) = 0)) nI (-2) (mN L) 0
def m_pb (L : amL) : Int32 := sumI (fun a => m_size (m_up L (nI a)) - 1) (mN L)
def m_kept (I : amI) (s : Int32) : Bool := m_isIn s.toInt64 0 1 && decide (¬ I 67 s.toNatClampNeg ≤ 0)
def m_at (f a b : Int32) : Int32 := ((17 + 256 * f) + 16 * a) + b
def m_part (r t : Int32) : Int32 := (r >>> ((2 * (3 - t)) &&& 31)) &&& 3
def mtOk (I : amI) : Prop := ∃ s : Nat, s ≤ 120 ∧ I 64 7 = nI s
def m_byte (I : amI) (k : Int32) : Int32 := if I 64 7 ≤ k then -1 else I 69 k.toNatClampNeg &&& 255
def m_map (L : amL) (x : Int32) : Int32 := (L 65 (1057 + x).toNatClampNeg).toInt32
def m_amT (I : amI) (y w : Int32) : Bool := m_has (I 68 y.toNatClampNeg) w
set_option maxRecDepth 100000 in
set_option maxHeartbeats 4000000 in
theorem b_X12_covers_0 {z : amZ} {post : amP} {G : amG} {I : amI} {L : amL} (hz : Go z cX12_covers RX12 4 (some .int) 5 0 0 post) (hG : Lay G)  (h : Wx z 0 0 4 [(0, .ref ((zB z).size + 64)), (1, .int 0), (2, .int 0)] [] G I L) : Wx z 0 0 0 [(0, .ref ((zB z).size + 64))] [] G I L := by
  have hz1 := hz.1
  refine am_iconst (v := 0) hz1 dX12_covers_0 (by decide) ?_
  refine am_istore_n (lv' := [(1, .int 0), (0, .ref ((zB z).size + 64))]) hz1 dX12_covers_1 rfl rfl rfl ?_
  refine am_iconst (v := 0) hz1 dX12_covers_2 (by decide) ?_
  refine am_istore_n (lv' := [(2, .int 0), (1, .int 0), (0, .ref ((zB z).size + 64))]) hz1 dX12_covers_3 rfl rfl rfl ?_
  exact am_sub (lv' := [(0, .ref ((zB z).size + 64)), (1, .int 0), (2, .int 0)]) [2, 1, 0] rfl h
set_option maxRecDepth 100000 in
set_option maxHeartbeats 4000000 in
theorem b_X12_covers_4 {z : amZ} {post : amP} {G : amG} {I : amI} {L : amL} (hz : Go z cX12_covers RX12 4 (some .int) 5 0 0 post) (hG : Lay G) {v1 : Int32} {v2 : Int32} (h : (((m_many L) ≤ v2) → post (some (.int v1)) G I L) ∧ ((¬ (m_many L) ≤ v2) → Wx z 0 0 14 [(0, .ref ((zB z).size + 64)), (1, .int v1), (2, .int v2), (3, .int 0)] [] G I L)) : Wx z 0 0 4 [(0, .ref ((zB z).size + 64)), (1, .int v1), (2, .int v2)] [] G I L := by
  have hz1 := hz.1
  refine am_iload_n hz1 dX12_covers_4 2 rfl rfl ?_
  refine am_aload_n hz1 dX12_covers_5 0 rfl rfl ?_
  refine am_cVf hz cv_X12_78 [] [.int v2] (c_X12_many hG  ) (ln_64 hG) (lk_64 hG) rfl rfl rfl ⟨Nat.le_refl _, Nat.le_refl _⟩ (Nat.le_of_ble_eq_true rfl) dX12_covers_6 ?_
  refine am_icmp_ge (tgt := 51) hz1 dX12_covers_9 (by decide) (fun c1 => ?_) (fun c1 => ?_)
  · replace h := h.1 c1
    refine am_iload_n hz1 dX12_covers_51 1 rfl rfl ?_
    exact am_ireturn hz dX12_covers_52 h
  · replace h := h.2 c1
    refine am_iconst (v := 0) hz1 dX12_covers_12 (by decide) ?_
    refine am_istore_n (lv' := [(3, .int 0), (0, .ref ((zB z).size + 64)), (1, .int v1), (2, .int v2)]) hz1 dX12_covers_13 rfl rfl rfl ?_
    exact am_sub (lv' := [(0, .ref ((zB z).size + 64)), (1, .int v1), (2, .int v2), (3, .int 0)]) [1, 2, 3, 0] rfl h
set_option maxRecDepth 100000 in
set_option maxHeartbeats 4000000 in
theorem b_X12_covers_14 {z : amZ} {post : amP} {G : amG} {I : amI} {L : amL} (hz : Go z cX12_covers RX12 4 (some .int) 5 0 0 post) (hG : Lay G) {v1 : Int32} {v2 : Int32} {v3 : Int32} (h : (((m_many L) ≤ v3) → Wx z 0 0 4 [(0, .ref ((zB z).size + 64)), (1, .int v1), (2, .int (v2 + 1))] [] G I L) ∧ ((¬ (m_many L) ≤ v3) → (mOk L) ∧ (vp_in v2 16) ∧ ((m_cov L v2 v3 = false) → Wx z 0 0 14 [(0, .ref ((zB z).size + 64)), (1, .int (v1 + (0 : Int32))), (2, .int v2), (3, .int (v3 + 1))] [] G I L) ∧ ((m_cov L v2 v3 = true) → Wx z 0 0 14 [(0, .ref ((zB z).size + 64)), (1, .int (v1 + (1 : Int32))), (2, .int v2), (3, .int (v3 + 1))] [] G I L))) : Wx z 0 0 14 [(0, .ref ((zB z).size + 64)), (1, .int v1), (2, .int v2), (3, .int v3)] [] G I L := by
  have hz1 := hz.1
  refine am_iload_n hz1 dX12_covers_14 3 rfl rfl ?_
  refine am_aload_n hz1 dX12_covers_15 0 rfl rfl ?_
  refine am_cVf hz cv_X12_78 [] [.int v3] (c_X12_many hG  ) (ln_64 hG) (lk_64 hG) rfl rfl rfl ⟨Nat.le_refl _, Nat.le_refl _⟩ (Nat.le_of_ble_eq_true rfl) dX12_covers_16 ?_
  refine am_icmp_ge (tgt := 45) hz1 dX12_covers_19 (by decide) (fun c1 => ?_) (fun c1 => ?_)
  · replace h := h.1 c1
    refine am_iinc (v := v2 + 1) (lv' := [(2, .int (v2 + 1)), (0, .ref ((zB z).size + 64)), (1, .int v1), (3, .int v3)]) hz1 dX12_covers_45 2 rfl rfl rfl rfl ?_
    refine am_goto (tgt := 4) hz1 dX12_covers_48 (by decide) ?_
    exact am_sub (lv' := [(0, .ref ((zB z).size + 64)), (1, .int v1), (2, .int (v2 + 1))]) [1, 2, 0] rfl h
  · replace h := h.2 c1
    refine am_iload_n hz1 dX12_covers_22 1 rfl rfl ?_
    refine am_aload_n hz1 dX12_covers_23 0 rfl rfl ?_
    refine am_iload_n hz1 dX12_covers_24 2 rfl rfl ?_
    refine am_iload_n hz1 dX12_covers_25 3 rfl rfl ?_
    obtain ⟨g2, h⟩ := h
    obtain ⟨g3, h⟩ := h
    refine am_cVf hz cv_X12_239 [.int v2, .int v3] [.int v1] (c_X12_isCover hG v2 v3 g2 g3) (ln_64 hG) (lk_64 hG) rfl rfl rfl ⟨Nat.le_refl _, Nat.le_refl _⟩ (Nat.le_of_ble_eq_true rfl) dX12_covers_26 ?_
    refine am_ifb_eq (tgt := 36) hz1 dX12_covers_29 (by decide) (fun c4 => ?_) (fun c4 => ?_)
    · replace h := h.1 c4
      refine am_iconst (v := 0) hz1 dX12_covers_36 (by decide) ?_
      refine am_iadd hz1 dX12_covers_37 ?_
      refine am_istore_n (lv' := [(1, .int (v1 + (0 : Int32))), (0, .ref ((zB z).size + 64)), (2, .int v2), (3, .int v3)]) hz1 dX12_covers_38 rfl rfl rfl ?_
      refine am_iinc (v := v3 + 1) (lv' := [(3, .int (v3 + 1)), (1, .int (v1 + (0 : Int32))), (0, .ref ((zB z).size + 64)), (2, .int v2)]) hz1 dX12_covers_39 3 rfl rfl rfl rfl ?_
      refine am_goto (tgt := 14) hz1 dX12_covers_42 (by decide) ?_
      exact am_sub (lv' := [(0, .ref ((zB z).size + 64)), (1, .int (v1 + (0 : Int32))), (2, .int v2), (3, .int (v3 + 1))]) [2, 1, 3, 0] rfl h
    · replace h := h.2 c4
      refine am_iconst (v := 1) hz1 dX12_covers_32 (by decide) ?_
      refine am_goto (tgt := 37) hz1 dX12_covers_33 (by decide) ?_
      refine am_iadd hz1 dX12_covers_37 ?_
      refine am_istore_n (lv' := [(1, .int (v1 + (1 : Int32))), (0, .ref ((zB z).size + 64)), (2, .int v2), (3, .int v3)]) hz1 dX12_covers_38 rfl rfl rfl ?_
      refine am_iinc (v := v3 + 1) (lv' := [(3, .int (v3 + 1)), (1, .int (v1 + (1 : Int32))), (0, .ref ((zB z).size + 64)), (2, .int v2)]) hz1 dX12_covers_39 3 rfl rfl rfl rfl ?_
      refine am_goto (tgt := 14) hz1 dX12_covers_42 (by decide) ?_
      exact am_sub (lv' := [(0, .ref ((zB z).size + 64)), (1, .int (v1 + (1 : Int32))), (2, .int v2), (3, .int (v3 + 1))]) [2, 1, 3, 0] rfl h
set_option maxRecDepth 100000 in
set_option maxHeartbeats 4000000 in
theorem c_X12_covers {l : Launch} {D : va_G} {B : Heap} {G : amG} {I : amI} {L : amL}  (hG : Lay G)   (hM : mOk L) : Fx l D B yX12_covers cX12_covers 4 (some .int) 5 [.ref (B.size + 64)] G I L (some (.int (m_covers L))) I L := by
  refine Mx.of (by decide) rfl rfl (fun z e1 e2 e3 hz => ?_)
  subst e1; subst e2; subst e3
  refine b_X12_covers_0 hz hG ?_
  obtain ⟨n, A, hM⟩ := hM
  have h16 := hM.2.1
  refine for_up (P := fun i => Wx z 0 0 4 [(0, .ref ((zB z).size + 64)), (1, .int (cnt2 (fun a b => m_cov L (nI a) (nI b)) n i)), (2, .int (nI i))] [] G I L) (n := n) ?_ ?_ (Nat.zero_le n)
  · exact b_X12_covers_4 hz hG ⟨fun _ => ⟨by rw [m_covers, hM.N], rfl, rfl, rfl⟩, fun h => absurd (mm_le hM) h⟩
  · intro i hi ih
    refine b_X12_covers_4 hz hG ⟨fun h => absurd h (mm_ge hM hi), fun _ => ?_⟩
    refine for_up (P := fun j => Wx z 0 0 14 [(0, .ref ((zB z).size + 64)), (1, .int (cnt2.addC (fun b => m_cov L (nI i) (nI b)) (cnt2 (fun a b => m_cov L (nI a) (nI b)) n i) j)), (2, .int (nI i)), (3, .int (nI j))] [] G I L) (n := n) ?_ ?_ (Nat.zero_le n)
    · refine b_X12_covers_14 hz hG ⟨fun _ => ?_, fun h => absurd (mm_le hM) h⟩
      rw [nI_1]
      exact ih
    · intro j hj jh
      refine b_X12_covers_14 hz hG ⟨fun h => absurd h (mm_ge hM hj), fun _ => ⟨⟨n, A, hM⟩, in16 h16 hi, fun h => ?_, fun h => ?_⟩⟩
      · rw [cnt2.addC, if_neg (by rw [h]; decide)] at jh
        rw [nI_1, Int32.add_zero]
        exact jh
      · rw [cnt2.addC, if_pos h] at jh
        rw [nI_1]
        exact jh
set_option maxRecDepth 100000 in
set_option maxHeartbeats 4000000 in
theorem b_X12_coverSet_0 {z : amZ} {post : amP} {G : amG} {I : amI} {L : amL} (hz : Go z cX12_coverSet RX12 4 (some .int) 5 0 0 post) (hG : Lay G) {v1 : Int32} (h : Wx z 0 0 4 [(0, .ref ((zB z).size + 64)), (1, .int v1), (2, .int 0), (3, .int 0)] [] G I L) : Wx z 0 0 0 [(0, .ref ((zB z).size + 64)), (1, .int v1)] [] G I L := by
  have hz1 := hz.1
  refine am_iconst (v := 0) hz1 dX12_coverSet_0 (by decide) ?_
  refine am_istore_n (lv' := [(2, .int 0), (0, .ref ((zB z).size + 64)), (1, .int v1)]) hz1 dX12_coverSet_1 rfl rfl rfl ?_
  refine am_iconst (v := 0) hz1 dX12_coverSet_2 (by decide) ?_
  refine am_istore_n (lv' := [(3, .int 0), (2, .int 0), (0, .ref ((zB z).size + 64)), (1, .int v1)]) hz1 dX12_coverSet_3 rfl rfl rfl ?_
  exact am_sub (lv' := [(0, .ref ((zB z).size + 64)), (1, .int v1), (2, .int 0), (3, .int 0)]) [2, 3, 1, 0] rfl h
set_option maxRecDepth 100000 in
set_option maxHeartbeats 4000000 in
theorem b_X12_coverSet_4 {z : amZ} {post : amP} {G : amG} {I : amI} {L : amL} (hz : Go z cX12_coverSet RX12 4 (some .int) 5 0 0 post) (hG : Lay G) {v1 : Int32} {v2 : Int32} {v3 : Int32} (h : (((m_many L) ≤ v3) → post (some (.int v2)) G I L) ∧ ((¬ (m_many L) ≤ v3) → (mOk L) ∧ (vp_in v1 16) ∧ ((m_cov L v1 v3 = false) → Wx z 0 0 4 [(0, .ref ((zB z).size + 64)), (1, .int v1), (2, .int (v2 ||| (0 : Int32))), (3, .int (v3 + 1))] [] G I L) ∧ ((m_cov L v1 v3 = true) → Wx z 0 0 4 [(0, .ref ((zB z).size + 64)), (1, .int v1), (2, .int (v2 ||| ((1 : Int32) <<< (v3 &&& 31)))), (3, .int (v3 + 1))] [] G I L))) : Wx z 0 0 4 [(0, .ref ((zB z).size + 64)), (1, .int v1), (2, .int v2), (3, .int v3)] [] G I L := by
  have hz1 := hz.1
  refine am_iload_n hz1 dX12_coverSet_4 3 rfl rfl ?_
  refine am_aload_n hz1 dX12_coverSet_5 0 rfl rfl ?_
  refine am_cVf hz cv_X12_78 [] [.int v3] (c_X12_many hG  ) (ln_64 hG) (lk_64 hG) rfl rfl rfl ⟨Nat.le_refl _, Nat.le_refl _⟩ (Nat.le_of_ble_eq_true rfl) dX12_coverSet_6 ?_
  refine am_icmp_ge (tgt := 37) hz1 dX12_coverSet_9 (by decide) (fun c1 => ?_) (fun c1 => ?_)
  · replace h := h.1 c1
    refine am_iload_n hz1 dX12_coverSet_37 2 rfl rfl ?_
    exact am_ireturn hz dX12_coverSet_38 h
  · replace h := h.2 c1
    refine am_iload_n hz1 dX12_coverSet_12 2 rfl rfl ?_
    refine am_aload_n hz1 dX12_coverSet_13 0 rfl rfl ?_
    refine am_iload_n hz1 dX12_coverSet_14 1 rfl rfl ?_
    refine am_iload_n hz1 dX12_coverSet_15 3 rfl rfl ?_
    obtain ⟨g2, h⟩ := h
    obtain ⟨g3, h⟩ := h
    refine am_cVf hz cv_X12_239 [.int v1, .int v3] [.int v2] (c_X12_isCover hG v1 v3 g2 g3) (ln_64 hG) (lk_64 hG) rfl rfl rfl ⟨Nat.le_refl _, Nat.le_refl _⟩ (Nat.le_of_ble_eq_true rfl) dX12_coverSet_16 ?_
    refine am_ifb_eq (tgt := 28) hz1 dX12_coverSet_19 (by decide) (fun c4 => ?_) (fun c4 => ?_)
    · replace h := h.1 c4
      refine am_iconst (v := 0) hz1 dX12_coverSet_28 (by decide) ?_
      refine am_ior hz1 dX12_coverSet_29 ?_
      refine am_istore_n (lv' := [(2, .int (v2 ||| (0 : Int32))), (0, .ref ((zB z).size + 64)), (1, .int v1), (3, .int v3)]) hz1 dX12_coverSet_30 rfl rfl rfl ?_
      refine am_iinc (v := v3 + 1) (lv' := [(3, .int (v3 + 1)), (2, .int (v2 ||| (0 : Int32))), (0, .ref ((zB z).size + 64)), (1, .int v1)]) hz1 dX12_coverSet_31 3 rfl rfl rfl rfl ?_
      refine am_goto (tgt := 4) hz1 dX12_coverSet_34 (by decide) ?_
      exact am_sub (lv' := [(0, .ref ((zB z).size + 64)), (1, .int v1), (2, .int (v2 ||| (0 : Int32))), (3, .int (v3 + 1))]) [2, 3, 1, 0] rfl h
    · replace h := h.2 c4
      refine am_iconst (v := 1) hz1 dX12_coverSet_22 (by decide) ?_
      refine am_iload_n hz1 dX12_coverSet_23 3 rfl rfl ?_
      refine am_ishl hz1 dX12_coverSet_24 ?_
      refine am_goto (tgt := 29) hz1 dX12_coverSet_25 (by decide) ?_
      refine am_ior hz1 dX12_coverSet_29 ?_
      refine am_istore_n (lv' := [(2, .int (v2 ||| ((1 : Int32) <<< (v3 &&& 31)))), (0, .ref ((zB z).size + 64)), (1, .int v1), (3, .int v3)]) hz1 dX12_coverSet_30 rfl rfl rfl ?_
      refine am_iinc (v := v3 + 1) (lv' := [(3, .int (v3 + 1)), (2, .int (v2 ||| ((1 : Int32) <<< (v3 &&& 31)))), (0, .ref ((zB z).size + 64)), (1, .int v1)]) hz1 dX12_coverSet_31 3 rfl rfl rfl rfl ?_
      refine am_goto (tgt := 4) hz1 dX12_coverSet_34 (by decide) ?_
      exact am_sub (lv' := [(0, .ref ((zB z).size + 64)), (1, .int v1), (2, .int (v2 ||| ((1 : Int32) <<< (v3 &&& 31)))), (3, .int (v3 + 1))]) [2, 3, 1, 0] rfl h
set_option maxRecDepth 100000 in
set_option maxHeartbeats 4000000 in
theorem c_X12_coverSet {l : Launch} {D : va_G} {B : Heap} {G : amG} {I : amI} {L : amL}  (hG : Lay G)  (v1 : Int32) (hM : mOk L) (hi : vp_in v1 16) : Fx l D B yX12_coverSet cX12_coverSet 4 (some .int) 5 [.ref (B.size + 64), .int v1] G I L (some (.int (m_cset L v1))) I L := by
  refine Mx.of (by decide) rfl rfl (fun z e1 e2 e3 hz => ?_)
  subst e1; subst e2; subst e3
  refine b_X12_coverSet_0 hz hG ?_
  have hO := hM
  obtain ⟨n, A, hM⟩ := hM
  have h16 := hM.2.1
  refine for_up (P := fun i => Wx z 0 0 4 [(0, .ref ((zB z).size + 64)), (1, .int v1), (2, .int (mkset (fun b => m_cov L v1 (nI b)) i)), (3, .int (nI i))] [] G I L) (n := n) ?_ ?_ (Nat.zero_le n)
  · exact b_X12_coverSet_4 hz hG ⟨fun _ => ⟨by rw [m_cset, hM.N], rfl, rfl, rfl⟩, fun h => absurd (mm_le hM) h⟩
  · intro i hi2 ih
    refine b_X12_coverSet_4 hz hG ⟨fun h => absurd h (mm_ge hM hi2), fun _ => ⟨hO, hi, fun h => ?_, fun h => ?_⟩⟩
    · rw [mkset, if_neg (by rw [h]; decide)] at ih
      rw [nI_1]
      exact ih
    · rw [mkset, if_pos h] at ih
      rw [nI_1]
      exact ih
set_option maxRecDepth 100000 in
set_option maxHeartbeats 4000000 in
theorem b_X12_coveredSet_0 {z : amZ} {post : amP} {G : amG} {I : amI} {L : amL} (hz : Go z cX12_coveredSet RX12 4 (some .int) 5 0 0 post) (hG : Lay G) {v1 : Int32} (h : Wx z 0 0 4 [(0, .ref ((zB z).size + 64)), (1, .int v1), (2, .int 0), (3, .int 0)] [] G I L) : Wx z 0 0 0 [(0, .ref ((zB z).size + 64)), (1, .int v1)] [] G I L := by
  have hz1 := hz.1
  refine am_iconst (v := 0) hz1 dX12_coveredSet_0 (by decide) ?_
  refine am_istore_n (lv' := [(2, .int 0), (0, .ref ((zB z).size + 64)), (1, .int v1)]) hz1 dX12_coveredSet_1 rfl rfl rfl ?_
  refine am_iconst (v := 0) hz1 dX12_coveredSet_2 (by decide) ?_
  refine am_istore_n (lv' := [(3, .int 0), (2, .int 0), (0, .ref ((zB z).size + 64)), (1, .int v1)]) hz1 dX12_coveredSet_3 rfl rfl rfl ?_
  exact am_sub (lv' := [(0, .ref ((zB z).size + 64)), (1, .int v1), (2, .int 0), (3, .int 0)]) [2, 3, 1, 0] rfl h
set_option maxRecDepth 100000 in
set_option maxHeartbeats 4000000 in
theorem b_X12_coveredSet_4 {z : amZ} {post : amP} {G : amG} {I : amI} {L : amL} (hz : Go z cX12_coveredSet RX12 4 (some .int) 5 0 0 post) (hG : Lay G) {v1 : Int32} {v2 : Int32} {v3 : Int32} (h : (((m_many L) ≤ v3) → post (some (.int v2)) G I L) ∧ ((¬ (m_many L) ≤ v3) → (mOk L) ∧ (vp_in v3 16) ∧ ((m_cov L v3 v1 = false) → Wx z 0 0 4 [(0, .ref ((zB z).size + 64)), (1, .int v1), (2, .int (v2 ||| (0 : Int32))), (3, .int (v3 + 1))] [] G I L) ∧ ((m_cov L v3 v1 = true) → Wx z 0 0 4 [(0, .ref ((zB z).size + 64)), (1, .int v1), (2, .int (v2 ||| ((1 : Int32) <<< (v3 &&& 31)))), (3, .int (v3 + 1))] [] G I L))) : Wx z 0 0 4 [(0, .ref ((zB z).size + 64)), (1, .int v1), (2, .int v2), (3, .int v3)] [] G I L := by
  have hz1 := hz.1
  refine am_iload_n hz1 dX12_coveredSet_4 3 rfl rfl ?_
  refine am_aload_n hz1 dX12_coveredSet_5 0 rfl rfl ?_
  refine am_cVf hz cv_X12_78 [] [.int v3] (c_X12_many hG  ) (ln_64 hG) (lk_64 hG) rfl rfl rfl ⟨Nat.le_refl _, Nat.le_refl _⟩ (Nat.le_of_ble_eq_true rfl) dX12_coveredSet_6 ?_
  refine am_icmp_ge (tgt := 37) hz1 dX12_coveredSet_9 (by decide) (fun c1 => ?_) (fun c1 => ?_)
  · replace h := h.1 c1
    refine am_iload_n hz1 dX12_coveredSet_37 2 rfl rfl ?_
    exact am_ireturn hz dX12_coveredSet_38 h
  · replace h := h.2 c1
    refine am_iload_n hz1 dX12_coveredSet_12 2 rfl rfl ?_
    refine am_aload_n hz1 dX12_coveredSet_13 0 rfl rfl ?_
    refine am_iload_n hz1 dX12_coveredSet_14 3 rfl rfl ?_
    refine am_iload_n hz1 dX12_coveredSet_15 1 rfl rfl ?_
    obtain ⟨g2, h⟩ := h
    obtain ⟨g3, h⟩ := h
    refine am_cVf hz cv_X12_239 [.int v3, .int v1] [.int v2] (c_X12_isCover hG v3 v1 g2 g3) (ln_64 hG) (lk_64 hG) rfl rfl rfl ⟨Nat.le_refl _, Nat.le_refl _⟩ (Nat.le_of_ble_eq_true rfl) dX12_coveredSet_16 ?_
    refine am_ifb_eq (tgt := 28) hz1 dX12_coveredSet_19 (by decide) (fun c4 => ?_) (fun c4 => ?_)
    · replace h := h.1 c4
      refine am_iconst (v := 0) hz1 dX12_coveredSet_28 (by decide) ?_
      refine am_ior hz1 dX12_coveredSet_29 ?_
      refine am_istore_n (lv' := [(2, .int (v2 ||| (0 : Int32))), (0, .ref ((zB z).size + 64)), (1, .int v1), (3, .int v3)]) hz1 dX12_coveredSet_30 rfl rfl rfl ?_
      refine am_iinc (v := v3 + 1) (lv' := [(3, .int (v3 + 1)), (2, .int (v2 ||| (0 : Int32))), (0, .ref ((zB z).size + 64)), (1, .int v1)]) hz1 dX12_coveredSet_31 3 rfl rfl rfl rfl ?_
      refine am_goto (tgt := 4) hz1 dX12_coveredSet_34 (by decide) ?_
      exact am_sub (lv' := [(0, .ref ((zB z).size + 64)), (1, .int v1), (2, .int (v2 ||| (0 : Int32))), (3, .int (v3 + 1))]) [2, 3, 1, 0] rfl h
    · replace h := h.2 c4
      refine am_iconst (v := 1) hz1 dX12_coveredSet_22 (by decide) ?_
      refine am_iload_n hz1 dX12_coveredSet_23 3 rfl rfl ?_
      refine am_ishl hz1 dX12_coveredSet_24 ?_
      refine am_goto (tgt := 29) hz1 dX12_coveredSet_25 (by decide) ?_
      refine am_ior hz1 dX12_coveredSet_29 ?_
      refine am_istore_n (lv' := [(2, .int (v2 ||| ((1 : Int32) <<< (v3 &&& 31)))), (0, .ref ((zB z).size + 64)), (1, .int v1), (3, .int v3)]) hz1 dX12_coveredSet_30 rfl rfl rfl ?_
      refine am_iinc (v := v3 + 1) (lv' := [(3, .int (v3 + 1)), (2, .int (v2 ||| ((1 : Int32) <<< (v3 &&& 31)))), (0, .ref ((zB z).size + 64)), (1, .int v1)]) hz1 dX12_coveredSet_31 3 rfl rfl rfl rfl ?_
      refine am_goto (tgt := 4) hz1 dX12_coveredSet_34 (by decide) ?_
      exact am_sub (lv' := [(0, .ref ((zB z).size + 64)), (1, .int v1), (2, .int (v2 ||| ((1 : Int32) <<< (v3 &&& 31)))), (3, .int (v3 + 1))]) [2, 3, 1, 0] rfl h
set_option maxRecDepth 100000 in
set_option maxHeartbeats 4000000 in
theorem c_X12_coveredSet {l : Launch} {D : va_G} {B : Heap} {G : amG} {I : amI} {L : amL}  (hG : Lay G)  (v1 : Int32) (hM : mOk L) : Fx l D B yX12_coveredSet cX12_coveredSet 4 (some .int) 5 [.ref (B.size + 64), .int v1] G I L (some (.int (m_dset L v1))) I L := by
  refine Mx.of (by decide) rfl rfl (fun z e1 e2 e3 hz => ?_)
  subst e1; subst e2; subst e3
  refine b_X12_coveredSet_0 hz hG ?_
  have hO := hM
  obtain ⟨n, A, hM⟩ := hM
  have h16 := hM.2.1
  refine for_up (P := fun i => Wx z 0 0 4 [(0, .ref ((zB z).size + 64)), (1, .int v1), (2, .int (mkset (fun a => m_cov L (nI a) v1) i)), (3, .int (nI i))] [] G I L) (n := n) ?_ ?_ (Nat.zero_le n)
  · exact b_X12_coveredSet_4 hz hG ⟨fun _ => ⟨by rw [m_dset, hM.N], rfl, rfl, rfl⟩, fun h => absurd (mm_le hM) h⟩
  · intro i hi2 ih
    refine b_X12_coveredSet_4 hz hG ⟨fun h => absurd h (mm_ge hM hi2), fun _ => ⟨hO, in16 h16 hi2, fun h => ?_, fun h => ?_⟩⟩
    · rw [mkset, if_neg (by rw [h]; decide)] at ih
      rw [nI_1]
      exact ih
    · rw [mkset, if_pos h] at ih
      rw [nI_1]
      exact ih
set_option maxRecDepth 100000 in
set_option maxHeartbeats 4000000 in
theorem b_X12_leastOf_0 {z : amZ} {post : amP} {G : amG} {I : amI} {L : amL} (hz : Go z cX12_leastOf RX12 3 (some .int) 1 0 0 post) (hG : Lay G) {v1 : Int32} (h : Wx z 0 0 2 [(0, .ref ((zB z).size + 64)), (1, .int v1), (2, .int 0)] [] G I L) : Wx z 0 0 0 [(0, .ref ((zB z).size + 64)), (1, .int v1)] [] G I L := by
  have hz1 := hz.1
  refine am_iconst (v := 0) hz1 dX12_leastOf_0 (by decide) ?_
  refine am_istore_n (lv' := [(2, .int 0), (0, .ref ((zB z).size + 64)), (1, .int v1)]) hz1 dX12_leastOf_1 rfl rfl rfl ?_
  exact am_sub (lv' := [(0, .ref ((zB z).size + 64)), (1, .int v1), (2, .int 0)]) [1, 2, 0] rfl h
set_option maxRecDepth 100000 in
set_option maxHeartbeats 4000000 in
theorem b_X12_leastOf_2 {z : amZ} {post : amP} {G : amG} {I : amI} {L : amL} (hz : Go z cX12_leastOf RX12 3 (some .int) 1 0 0 post) (hG : Lay G) {v1 : Int32} {v2 : Int32} (h : (((m_many L) ≤ v2) → post (some (.int (-2))) G I L) ∧ ((¬ (m_many L) ≤ v2) → ((m_has v1 v2 = false) → Wx z 0 0 2 [(0, .ref ((zB z).size + 64)), (1, .int v1), (2, .int (v2 + 1))] [] G I L) ∧ ((m_has v1 v2 = true) → (vp_in v2 16) ∧ ((¬ (v1 &&& ((m_up L v2) ^^^ (-1 : Int32))) = 0) → Wx z 0 0 2 [(0, .ref ((zB z).size + 64)), (1, .int v1), (2, .int (v2 + 1))] [] G I L) ∧ (((v1 &&& ((m_up L v2) ^^^ (-1 : Int32))) = 0) → post (some (.int v2)) G I L)))) : Wx z 0 0 2 [(0, .ref ((zB z).size + 64)), (1, .int v1), (2, .int v2)] [] G I L := by
  have hz1 := hz.1
  refine am_iload_n hz1 dX12_leastOf_2 2 rfl rfl ?_
  refine am_aload_n hz1 dX12_leastOf_3 0 rfl rfl ?_
  refine am_cVf hz cv_X12_78 [] [.int v2] (c_X12_many hG  ) (ln_64 hG) (lk_64 hG) rfl rfl rfl ⟨Nat.le_refl _, Nat.le_refl _⟩ (Nat.le_of_ble_eq_true rfl) dX12_leastOf_4 ?_
  refine am_icmp_ge (tgt := 38) hz1 dX12_leastOf_7 (by decide) (fun c1 => ?_) (fun c1 => ?_)
  · replace h := h.1 c1
    refine am_bipush (v := (-2)) hz1 dX12_leastOf_38 (by decide) ?_
    exact am_ireturn hz dX12_leastOf_40 h
  · replace h := h.2 c1
    refine am_iload_n hz1 dX12_leastOf_10 1 rfl rfl ?_
    refine am_iload_n hz1 dX12_leastOf_11 2 rfl rfl ?_
    refine am_cSf hz ct_X12_90 [.int v1, .int v2] [] (c_X12_has hG v1 v2 ) rfl rfl rfl ⟨Nat.le_refl _, Nat.le_refl _⟩ (Nat.le_of_ble_eq_true rfl) dX12_leastOf_12 ?_
    refine am_ifb_eq (tgt := 32) hz1 dX12_leastOf_15 (by decide) (fun c2 => ?_) (fun c2 => ?_)
    · replace h := h.1 c2
      refine am_iinc (v := v2 + 1) (lv' := [(2, .int (v2 + 1)), (0, .ref ((zB z).size + 64)), (1, .int v1)]) hz1 dX12_leastOf_32 2 rfl rfl rfl rfl ?_
      refine am_goto (tgt := 2) hz1 dX12_leastOf_35 (by decide) ?_
      exact am_sub (lv' := [(0, .ref ((zB z).size + 64)), (1, .int v1), (2, .int (v2 + 1))]) [1, 2, 0] rfl h
    · replace h := h.2 c2
      refine am_iload_n hz1 dX12_leastOf_18 1 rfl rfl ?_
      refine am_aload_n hz1 dX12_leastOf_19 0 rfl rfl ?_
      refine am_iload_n hz1 dX12_leastOf_20 2 rfl rfl ?_
      obtain ⟨g3, h⟩ := h
      refine am_cVf hz cv_X12_86 [.int v2] [.int v1] (c_X12_up hG v2 g3) (ln_64 hG) (lk_64 hG) rfl rfl rfl ⟨Nat.le_refl _, Nat.le_refl _⟩ (Nat.le_of_ble_eq_true rfl) dX12_leastOf_21 ?_
      refine am_iconst (v := (-1)) hz1 dX12_leastOf_24 (by decide) ?_
      refine am_ixor hz1 dX12_leastOf_25 ?_
      refine am_iand hz1 dX12_leastOf_26 ?_
      refine am_if_ne (tgt := 32) hz1 dX12_leastOf_27 (by decide) (fun c4 => ?_) (fun c4 => ?_)
      · replace h := h.1 c4
        refine am_iinc (v := v2 + 1) (lv' := [(2, .int (v2 + 1)), (0, .ref ((zB z).size + 64)), (1, .int v1)]) hz1 dX12_leastOf_32 2 rfl rfl rfl rfl ?_
        refine am_goto (tgt := 2) hz1 dX12_leastOf_35 (by decide) ?_
        exact am_sub (lv' := [(0, .ref ((zB z).size + 64)), (1, .int v1), (2, .int (v2 + 1))]) [1, 2, 0] rfl h
      · replace h := h.2 c4
        refine am_iload_n hz1 dX12_leastOf_30 2 rfl rfl ?_
        exact am_ireturn hz dX12_leastOf_31 h
set_option maxRecDepth 100000 in
set_option maxHeartbeats 4000000 in
theorem c_X12_leastOf {l : Launch} {D : va_G} {B : Heap} {G : amG} {I : amI} {L : amL}  (hG : Lay G)  (v1 : Int32) (hM : mOk L) : Fx l D B yX12_leastOf cX12_leastOf 3 (some .int) 1 [.ref (B.size + 64), .int v1] G I L (some (.int (m_least L v1))) I L := by
  refine Mx.of (by decide) rfl rfl (fun z e1 e2 e3 hz => ?_)
  subst e1; subst e2; subst e3
  refine b_X12_leastOf_0 hz hG ?_
  obtain ⟨n, A, hM⟩ := hM
  have h16 := hM.2.1
  refine for_up (P := fun i => scan (fun a => m_has v1 (nI a) && decide (v1 &&& (m_up L (nI a) ^^^ (-1)) = 0)) nI (-2) (n - i) i = m_least L v1 → Wx z 0 0 2 [(0, .ref ((zB z).size + 64)), (1, .int v1), (2, .int (nI i))] [] G I L) (n := n) ?_ ?_ (Nat.zero_le n) (by rw [m_least, hM.N, Nat.sub_zero])
  · intro e
    rw [scan_0] at e
    exact b_X12_leastOf_2 hz hG ⟨fun _ => ⟨by rw [e], rfl, rfl, rfl⟩, fun h => absurd (mm_le hM) h⟩
  · intro i hi ih e
    rw [scan_s hi] at e
    refine b_X12_leastOf_2 hz hG ⟨fun h => absurd h (mm_ge hM hi), fun _ => ⟨fun h => ?_, fun h => ⟨in16 h16 hi, fun h2 => ?_, fun h2 => ?_⟩⟩⟩
    · rw [if_neg (by rw [h, Bool.false_and]; decide)] at e
      rw [nI_1]
      exact ih e
    · rw [if_neg (by rw [decide_eq_false h2, Bool.and_false]; decide)] at e
      rw [nI_1]
      exact ih e
    · rw [if_pos (by rw [decide_eq_true h2, h]; rfl)] at e
      exact ⟨by rw [e], rfl, rfl, rfl⟩
set_option maxRecDepth 100000 in
set_option maxHeartbeats 4000000 in
theorem b_X12_greatestOf_0 {z : amZ} {post : amP} {G : amG} {I : amI} {L : amL} (hz : Go z cX12_greatestOf RX12 3 (some .int) 3 0 0 post) (hG : Lay G) {v1 : Int32} (h : Wx z 0 0 2 [(0, .ref ((zB z).size + 64)), (1, .int v1), (2, .int 0)] [] G I L) : Wx z 0 0 0 [(0, .ref ((zB z).size + 64)), (1, .int v1)] [] G I L := by
  have hz1 := hz.1
  refine am_iconst (v := 0) hz1 dX12_greatestOf_0 (by decide) ?_
  refine am_istore_n (lv' := [(2, .int 0), (0, .ref ((zB z).size + 64)), (1, .int v1)]) hz1 dX12_greatestOf_1 rfl rfl rfl ?_
  exact am_sub (lv' := [(0, .ref ((zB z).size + 64)), (1, .int v1), (2, .int 0)]) [1, 2, 0] rfl h
set_option maxRecDepth 100000 in
set_option maxHeartbeats 4000000 in
theorem b_X12_greatestOf_2 {z : amZ} {post : amP} {G : amG} {I : amI} {L : amL} (hz : Go z cX12_greatestOf RX12 3 (some .int) 3 0 0 post) (hG : Lay G) {v1 : Int32} {v2 : Int32} (h : (((m_many L) ≤ v2) → post (some (.int (-2))) G I L) ∧ ((¬ (m_many L) ≤ v2) → ((m_has v1 v2 = false) → Wx z 0 0 2 [(0, .ref ((zB z).size + 64)), (1, .int v1), (2, .int (v2 + 1))] [] G I L) ∧ ((m_has v1 v2 = true) → (mOk L) ∧ ((¬ (v1 &&& ((m_dn L v2) ^^^ (-1 : Int32))) = 0) → Wx z 0 0 2 [(0, .ref ((zB z).size + 64)), (1, .int v1), (2, .int (v2 + 1))] [] G I L) ∧ (((v1 &&& ((m_dn L v2) ^^^ (-1 : Int32))) = 0) → post (some (.int v2)) G I L)))) : Wx z 0 0 2 [(0, .ref ((zB z).size + 64)), (1, .int v1), (2, .int v2)] [] G I L := by
  have hz1 := hz.1
  refine am_iload_n hz1 dX12_greatestOf_2 2 rfl rfl ?_
  refine am_aload_n hz1 dX12_greatestOf_3 0 rfl rfl ?_
  refine am_cVf hz cv_X12_78 [] [.int v2] (c_X12_many hG  ) (ln_64 hG) (lk_64 hG) rfl rfl rfl ⟨Nat.le_refl _, Nat.le_refl _⟩ (Nat.le_of_ble_eq_true rfl) dX12_greatestOf_4 ?_
  refine am_icmp_ge (tgt := 38) hz1 dX12_greatestOf_7 (by decide) (fun c1 => ?_) (fun c1 => ?_)
  · replace h := h.1 c1
    refine am_bipush (v := (-2)) hz1 dX12_greatestOf_38 (by decide) ?_
    exact am_ireturn hz dX12_greatestOf_40 h
  · replace h := h.2 c1
    refine am_iload_n hz1 dX12_greatestOf_10 1 rfl rfl ?_
    refine am_iload_n hz1 dX12_greatestOf_11 2 rfl rfl ?_
    refine am_cSf hz ct_X12_90 [.int v1, .int v2] [] (c_X12_has hG v1 v2 ) rfl rfl rfl ⟨Nat.le_refl _, Nat.le_refl _⟩ (Nat.le_of_ble_eq_true rfl) dX12_greatestOf_12 ?_
    refine am_ifb_eq (tgt := 32) hz1 dX12_greatestOf_15 (by decide) (fun c2 => ?_) (fun c2 => ?_)
    · replace h := h.1 c2
      refine am_iinc (v := v2 + 1) (lv' := [(2, .int (v2 + 1)), (0, .ref ((zB z).size + 64)), (1, .int v1)]) hz1 dX12_greatestOf_32 2 rfl rfl rfl rfl ?_
      refine am_goto (tgt := 2) hz1 dX12_greatestOf_35 (by decide) ?_
      exact am_sub (lv' := [(0, .ref ((zB z).size + 64)), (1, .int v1), (2, .int (v2 + 1))]) [1, 2, 0] rfl h
    · replace h := h.2 c2
      refine am_iload_n hz1 dX12_greatestOf_18 1 rfl rfl ?_
      refine am_aload_n hz1 dX12_greatestOf_19 0 rfl rfl ?_
      refine am_iload_n hz1 dX12_greatestOf_20 2 rfl rfl ?_
      obtain ⟨g3, h⟩ := h
      refine am_cVf hz cv_X12_97 [.int v2] [.int v1] (c_X12_down hG v2 g3) (ln_64 hG) (lk_64 hG) rfl rfl rfl ⟨Nat.le_refl _, Nat.le_refl _⟩ (Nat.le_of_ble_eq_true rfl) dX12_greatestOf_21 ?_
      refine am_iconst (v := (-1)) hz1 dX12_greatestOf_24 (by decide) ?_
      refine am_ixor hz1 dX12_greatestOf_25 ?_
      refine am_iand hz1 dX12_greatestOf_26 ?_
      refine am_if_ne (tgt := 32) hz1 dX12_greatestOf_27 (by decide) (fun c4 => ?_) (fun c4 => ?_)
      · replace h := h.1 c4
        refine am_iinc (v := v2 + 1) (lv' := [(2, .int (v2 + 1)), (0, .ref ((zB z).size + 64)), (1, .int v1)]) hz1 dX12_greatestOf_32 2 rfl rfl rfl rfl ?_
        refine am_goto (tgt := 2) hz1 dX12_greatestOf_35 (by decide) ?_
        exact am_sub (lv' := [(0, .ref ((zB z).size + 64)), (1, .int v1), (2, .int (v2 + 1))]) [1, 2, 0] rfl h
      · replace h := h.2 c4
        refine am_iload_n hz1 dX12_greatestOf_30 2 rfl rfl ?_
        exact am_ireturn hz dX12_greatestOf_31 h
set_option maxRecDepth 100000 in
set_option maxHeartbeats 4000000 in
theorem c_X12_greatestOf {l : Launch} {D : va_G} {B : Heap} {G : amG} {I : amI} {L : amL}  (hG : Lay G)  (v1 : Int32) (hM : mOk L) : Fx l D B yX12_greatestOf cX12_greatestOf 3 (some .int) 3 [.ref (B.size + 64), .int v1] G I L (some (.int (m_great L v1))) I L := by
  refine Mx.of (by decide) rfl rfl (fun z e1 e2 e3 hz => ?_)
  subst e1; subst e2; subst e3
  refine b_X12_greatestOf_0 hz hG ?_
  have hO := hM
  obtain ⟨n, A, hM⟩ := hM
  have h16 := hM.2.1
  refine for_up (P := fun i => scan (fun a => m_has v1 (nI a) && decide (v1 &&& (m_dn L (nI a) ^^^ (-1)) = 0)) nI (-2) (n - i) i = m_great L v1 → Wx z 0 0 2 [(0, .ref ((zB z).size + 64)), (1, .int v1), (2, .int (nI i))] [] G I L) (n := n) ?_ ?_ (Nat.zero_le n) (by rw [m_great, hM.N, Nat.sub_zero])
  · intro e
    rw [scan_0] at e
    exact b_X12_greatestOf_2 hz hG ⟨fun _ => ⟨by rw [e], rfl, rfl, rfl⟩, fun h => absurd (mm_le hM) h⟩
  · intro i hi ih e
    rw [scan_s hi] at e
    refine b_X12_greatestOf_2 hz hG ⟨fun h => absurd h (mm_ge hM hi), fun _ => ⟨fun h => ?_, fun h => ⟨hO, fun h2 => ?_, fun h2 => ?_⟩⟩⟩
    · rw [if_neg (by rw [h, Bool.false_and]; decide)] at e
      rw [nI_1]
      exact ih e
    · rw [if_neg (by rw [decide_eq_false h2, Bool.and_false]; decide)] at e
      rw [nI_1]
      exact ih e
    · rw [if_pos (by rw [decide_eq_true h2, h]; rfl)] at e
      exact ⟨by rw [e], rfl, rfl, rfl⟩
set_option maxRecDepth 100000 in
set_option maxHeartbeats 4000000 in
theorem b_X12_join_0 {z : amZ} {post : amP} {G : amG} {I : amI} {L : amL} (hz : Go z cX12_join RX12 3 (some .int) 2 0 0 post) (hG : Lay G) {v1 : Int32} {v2 : Int32} (h : (vp_in v1 16) ∧ (vp_in v2 16) ∧ (mOk L) ∧ post (some (.int (m_least L ((m_up L v1) &&& (m_up L v2))))) G I L) : Wx z 0 0 0 [(0, .ref ((zB z).size + 64)), (1, .int v1), (2, .int v2)] [] G I L := by
  have hz1 := hz.1
  refine am_aload_n hz1 dX12_join_0 0 rfl rfl ?_
  refine am_aload_n hz1 dX12_join_1 0 rfl rfl ?_
  refine am_iload_n hz1 dX12_join_2 1 rfl rfl ?_
  obtain ⟨g1, h⟩ := h
  refine am_cVf hz cv_X12_86 [.int v1] [.ref ((zB z).size + 64)] (c_X12_up hG v1 g1) (ln_64 hG) (lk_64 hG) rfl rfl rfl ⟨Nat.le_refl _, Nat.le_refl _⟩ (Nat.le_of_ble_eq_true rfl) dX12_join_3 ?_
  refine am_aload_n hz1 dX12_join_6 0 rfl rfl ?_
  refine am_iload_n hz1 dX12_join_7 2 rfl rfl ?_
  obtain ⟨g2, h⟩ := h
  refine am_cVf hz cv_X12_86 [.int v2] [.int (m_up L v1), .ref ((zB z).size + 64)] (c_X12_up hG v2 g2) (ln_64 hG) (lk_64 hG) rfl rfl rfl ⟨Nat.le_refl _, Nat.le_refl _⟩ (Nat.le_of_ble_eq_true rfl) dX12_join_8 ?_
  refine am_iand hz1 dX12_join_11 ?_
  obtain ⟨g3, h⟩ := h
  refine am_cVf hz cv_X12_347 [.int ((m_up L v1) &&& (m_up L v2))] [] (c_X12_leastOf hG ((m_up L v1) &&& (m_up L v2)) g3) (ln_64 hG) (lk_64 hG) rfl rfl rfl ⟨Nat.le_refl _, Nat.le_refl _⟩ (Nat.le_of_ble_eq_true rfl) dX12_join_12 ?_
  exact am_ireturn hz dX12_join_15 h
set_option maxRecDepth 100000 in
set_option maxHeartbeats 4000000 in
theorem c_X12_join {l : Launch} {D : va_G} {B : Heap} {G : amG} {I : amI} {L : amL}  (hG : Lay G)  (v1 : Int32) (v2 : Int32) (hM : mOk L) (h1 : vp_in v1 16) (h2 : vp_in v2 16) : Fx l D B yX12_join cX12_join 3 (some .int) 2 [.ref (B.size + 64), .int v1, .int v2] G I L (some (.int (m_least L (m_up L v1 &&& m_up L v2)))) I L := by
  refine Mx.of (by decide) rfl rfl (fun z e1 e2 e3 hz => ?_)
  subst e1; subst e2; subst e3
  refine b_X12_join_0 hz hG ?_
  exact ⟨h1, h2, hM, rfl, rfl, rfl, rfl⟩
set_option maxRecDepth 100000 in
set_option maxHeartbeats 4000000 in
theorem b_X12_meet_0 {z : amZ} {post : amP} {G : amG} {I : amI} {L : amL} (hz : Go z cX12_meet RX12 3 (some .int) 4 0 0 post) (hG : Lay G) {v1 : Int32} {v2 : Int32} (h : (mOk L) ∧ (mOk L) ∧ (mOk L) ∧ post (some (.int (m_great L ((m_dn L v1) &&& (m_dn L v2))))) G I L) : Wx z 0 0 0 [(0, .ref ((zB z).size + 64)), (1, .int v1), (2, .int v2)] [] G I L := by
  have hz1 := hz.1
  refine am_aload_n hz1 dX12_meet_0 0 rfl rfl ?_
  refine am_aload_n hz1 dX12_meet_1 0 rfl rfl ?_
  refine am_iload_n hz1 dX12_meet_2 1 rfl rfl ?_
  obtain ⟨g1, h⟩ := h
  refine am_cVf hz cv_X12_97 [.int v1] [.ref ((zB z).size + 64)] (c_X12_down hG v1 g1) (ln_64 hG) (lk_64 hG) rfl rfl rfl ⟨Nat.le_refl _, Nat.le_refl _⟩ (Nat.le_of_ble_eq_true rfl) dX12_meet_3 ?_
  refine am_aload_n hz1 dX12_meet_6 0 rfl rfl ?_
  refine am_iload_n hz1 dX12_meet_7 2 rfl rfl ?_
  obtain ⟨g2, h⟩ := h
  refine am_cVf hz cv_X12_97 [.int v2] [.int (m_dn L v1), .ref ((zB z).size + 64)] (c_X12_down hG v2 g2) (ln_64 hG) (lk_64 hG) rfl rfl rfl ⟨Nat.le_refl _, Nat.le_refl _⟩ (Nat.le_of_ble_eq_true rfl) dX12_meet_8 ?_
  refine am_iand hz1 dX12_meet_11 ?_
  obtain ⟨g3, h⟩ := h
  refine am_cVf hz cv_X12_350 [.int ((m_dn L v1) &&& (m_dn L v2))] [] (c_X12_greatestOf hG ((m_dn L v1) &&& (m_dn L v2)) g3) (ln_64 hG) (lk_64 hG) rfl rfl rfl ⟨Nat.le_refl _, Nat.le_refl _⟩ (Nat.le_of_ble_eq_true rfl) dX12_meet_12 ?_
  exact am_ireturn hz dX12_meet_15 h
set_option maxRecDepth 100000 in
set_option maxHeartbeats 4000000 in
theorem c_X12_meet {l : Launch} {D : va_G} {B : Heap} {G : amG} {I : amI} {L : amL}  (hG : Lay G)  (v1 : Int32) (v2 : Int32) (hM : mOk L) : Fx l D B yX12_meet cX12_meet 3 (some .int) 4 [.ref (B.size + 64), .int v1, .int v2] G I L (some (.int (m_great L (m_dn L v1 &&& m_dn L v2)))) I L := by
  refine Mx.of (by decide) rfl rfl (fun z e1 e2 e3 hz => ?_)
  subst e1; subst e2; subst e3
  refine b_X12_meet_0 hz hG ?_
  exact ⟨hM, hM, hM, rfl, rfl, rfl, rfl⟩
set_option maxRecDepth 100000 in
set_option maxHeartbeats 4000000 in
theorem b_X12_pairsBelow_0 {z : amZ} {post : amP} {G : amG} {I : amI} {L : amL} (hz : Go z cX12_pairsBelow RX12 3 (some .int) 1 0 0 post) (hG : Lay G)  (h : Wx z 0 0 4 [(0, .ref ((zB z).size + 64)), (1, .int 0), (2, .int 0)] [] G I L) : Wx z 0 0 0 [(0, .ref ((zB z).size + 64))] [] G I L := by
  have hz1 := hz.1
  refine am_iconst (v := 0) hz1 dX12_pairsBelow_0 (by decide) ?_
  refine am_istore_n (lv' := [(1, .int 0), (0, .ref ((zB z).size + 64))]) hz1 dX12_pairsBelow_1 rfl rfl rfl ?_
  refine am_iconst (v := 0) hz1 dX12_pairsBelow_2 (by decide) ?_
  refine am_istore_n (lv' := [(2, .int 0), (1, .int 0), (0, .ref ((zB z).size + 64))]) hz1 dX12_pairsBelow_3 rfl rfl rfl ?_
  exact am_sub (lv' := [(0, .ref ((zB z).size + 64)), (1, .int 0), (2, .int 0)]) [2, 1, 0] rfl h
set_option maxRecDepth 100000 in
set_option maxHeartbeats 4000000 in
theorem b_X12_pairsBelow_4 {z : amZ} {post : amP} {G : amG} {I : amI} {L : amL} (hz : Go z cX12_pairsBelow RX12 3 (some .int) 1 0 0 post) (hG : Lay G) {v1 : Int32} {v2 : Int32} (h : (((m_many L) ≤ v2) → post (some (.int v1)) G I L) ∧ ((¬ (m_many L) ≤ v2) → (vp_in v2 16) ∧ (s16 (m_up L v2)) ∧ Wx z 0 0 4 [(0, .ref ((zB z).size + 64)), (1, .int (v1 + ((m_size (m_up L v2)) - (1 : Int32)))), (2, .int (v2 + 1))] [] G I L)) : Wx z 0 0 4 [(0, .ref ((zB z).size + 64)), (1, .int v1), (2, .int v2)] [] G I L := by
  have hz1 := hz.1
  refine am_iload_n hz1 dX12_pairsBelow_4 2 rfl rfl ?_
  refine am_aload_n hz1 dX12_pairsBelow_5 0 rfl rfl ?_
  refine am_cVf hz cv_X12_78 [] [.int v2] (c_X12_many hG  ) (ln_64 hG) (lk_64 hG) rfl rfl rfl ⟨Nat.le_refl _, Nat.le_refl _⟩ (Nat.le_of_ble_eq_true rfl) dX12_pairsBelow_6 ?_
  refine am_icmp_ge (tgt := 31) hz1 dX12_pairsBelow_9 (by decide) (fun c1 => ?_) (fun c1 => ?_)
  · replace h := h.1 c1
    refine am_iload_n hz1 dX12_pairsBelow_31 1 rfl rfl ?_
    exact am_ireturn hz dX12_pairsBelow_32 h
  · replace h := h.2 c1
    refine am_iload_n hz1 dX12_pairsBelow_12 1 rfl rfl ?_
    refine am_aload_n hz1 dX12_pairsBelow_13 0 rfl rfl ?_
    refine am_iload_n hz1 dX12_pairsBelow_14 2 rfl rfl ?_
    obtain ⟨g2, h⟩ := h
    refine am_cVf hz cv_X12_86 [.int v2] [.int v1] (c_X12_up hG v2 g2) (ln_64 hG) (lk_64 hG) rfl rfl rfl ⟨Nat.le_refl _, Nat.le_refl _⟩ (Nat.le_of_ble_eq_true rfl) dX12_pairsBelow_15 ?_
    obtain ⟨g3, h⟩ := h
    refine am_cSf hz ct_X12_111 [.int (m_up L v2)] [.int v1] (c_X12_size hG (m_up L v2) g3) rfl rfl rfl ⟨Nat.le_refl _, Nat.le_refl _⟩ (Nat.le_of_ble_eq_true rfl) dX12_pairsBelow_18 ?_
    refine am_iconst (v := 1) hz1 dX12_pairsBelow_21 (by decide) ?_
    refine am_isub hz1 dX12_pairsBelow_22 ?_
    refine am_iadd hz1 dX12_pairsBelow_23 ?_
    refine am_istore_n (lv' := [(1, .int (v1 + ((m_size (m_up L v2)) - (1 : Int32)))), (0, .ref ((zB z).size + 64)), (2, .int v2)]) hz1 dX12_pairsBelow_24 rfl rfl rfl ?_
    refine am_iinc (v := v2 + 1) (lv' := [(2, .int (v2 + 1)), (1, .int (v1 + ((m_size (m_up L v2)) - (1 : Int32)))), (0, .ref ((zB z).size + 64))]) hz1 dX12_pairsBelow_25 2 rfl rfl rfl rfl ?_
    refine am_goto (tgt := 4) hz1 dX12_pairsBelow_28 (by decide) ?_
    exact am_sub (lv' := [(0, .ref ((zB z).size + 64)), (1, .int (v1 + ((m_size (m_up L v2)) - (1 : Int32)))), (2, .int (v2 + 1))]) [2, 1, 0] rfl h
set_option maxRecDepth 100000 in
set_option maxHeartbeats 4000000 in
theorem c_X12_pairsBelow {l : Launch} {D : va_G} {B : Heap} {G : amG} {I : amI} {L : amL}  (hG : Lay G)   (hM : mOk L) : Fx l D B yX12_pairsBelow cX12_pairsBelow 3 (some .int) 1 [.ref (B.size + 64)] G I L (some (.int (m_pb L))) I L := by
  refine Mx.of (by decide) rfl rfl (fun z e1 e2 e3 hz => ?_)
  subst e1; subst e2; subst e3
  refine b_X12_pairsBelow_0 hz hG ?_
  have hO := hM
  obtain ⟨n, A, hM⟩ := hM
  have h16 := hM.2.1
  refine for_up (P := fun i => Wx z 0 0 4 [(0, .ref ((zB z).size + 64)), (1, .int (sumI (fun a => m_size (m_up L (nI a)) - 1) i)), (2, .int (nI i))] [] G I L) (n := n) ?_ ?_ (Nat.zero_le n)
  · exact b_X12_pairsBelow_4 hz hG ⟨fun _ => ⟨by rw [m_pb, hM.N], rfl, rfl, rfl⟩, fun h => absurd (mm_le hM) h⟩
  · intro i hi ih
    refine b_X12_pairsBelow_4 hz hG ⟨fun h => absurd h (mm_ge hM hi), fun _ => ⟨in16 h16 hi, m_up_16 hO (by omega), ?_⟩⟩
    rw [nI_1]
    exact ih
theorem isIn_in {s : Int32} {N : Nat} {b : Int64} (hN : N < 2 ^ 31) (hb : b.toInt = (N : Int)) (h : m_isIn s.toInt64 0 b = true) : ∃ x, x ≤ N ∧ s = nI x := by
  rw [m_isIn, Bool.and_eq_true, decide_eq_true_eq, decide_eq_true_eq] at h
  obtain ⟨e1, e2⟩ := h
  rw [Int64.lt_iff_toInt_lt, Int32.toInt_toInt64] at e1
  rw [Int64.lt_iff_toInt_lt, Int32.toInt_toInt64, hb] at e2
  have e1' : 0 ≤ s.toInt := by simpa using e1
  by_cases hx : N + 1 < 2 ^ 31
  · obtain ⟨x, hx2, rfl⟩ := vp_in_of (vp_in_iff.mpr ⟨e1', by omega⟩ : vp_in s (N + 1)) hx
    exact ⟨x, by omega, rfl⟩
  · have h0 : ¬ s < 0 := by rw [Int32.lt_iff_toInt_lt]; simpa using e1
    obtain ⟨j, hj, rfl⟩ := nI_of h0
    exact ⟨j, by omega, rfl⟩
set_option maxRecDepth 100000 in
set_option maxHeartbeats 4000000 in
theorem b_X12_isKept_0 {z : amZ} {post : amP} {G : amG} {I : amI} {L : amL} (hz : Go z cX12_isKept RX12 2 (some .boolean) 1 0 0 post) (hG : Lay G) {v1 : Int32} (h : ((m_isIn v1.toInt64 (0 : Int64) (1 : Int64) = false) → post (some (.int 0)) G I L) ∧ ((m_isIn v1.toInt64 (0 : Int64) (1 : Int64) = true) → vp_in v1 2 ∧ (((I 67 v1.toNatClampNeg) ≤ 0) → post (some (.int 0)) G I L) ∧ ((¬ (I 67 v1.toNatClampNeg) ≤ 0) → post (some (.int 1)) G I L))) : Wx z 0 0 0 [(0, .ref ((zB z).size + 64)), (1, .int v1)] [] G I L := by
  have hz1 := hz.1
  refine am_iload_n hz1 dX12_isKept_0 1 rfl rfl ?_
  refine am_i2l hz1 dX12_isKept_1 ?_
  refine am_lconst (v := 0) hz1 dX12_isKept_2 (by decide) ?_
  refine am_lconst (v := 1) hz1 dX12_isKept_3 (by decide) ?_
  refine am_cSf hz ct_X12_82 [.long v1.toInt64, .long (0 : Int64), .long (1 : Int64)] [] (c_X12_isIn hG v1.toInt64 (0 : Int64) (1 : Int64) ) rfl rfl rfl ⟨Nat.le_refl _, Nat.le_refl _⟩ (Nat.le_of_ble_eq_true rfl) dX12_isKept_4 ?_
  refine am_ifb_eq (tgt := 23) hz1 dX12_isKept_7 (by decide) (fun c1 => ?_) (fun c1 => ?_)
  · replace h := h.1 c1
    refine am_iconst (v := 0) hz1 dX12_isKept_23 (by decide) ?_
    exact am_zreturn hz (by decide) dX12_isKept_24 h
  · replace h := h.2 c1
    refine am_aload_n hz1 dX12_isKept_10 0 rfl rfl ?_
    refine am_getR hz1 fl_X12_18 (ln_64 hG) (lk_64 hG) (lr_64_3 hG) rfl dX12_isKept_11 ?_
    refine am_iload_n hz1 dX12_isKept_14 1 rfl rfl ?_
    obtain ⟨g2, h⟩ := h
    refine am_iald hz1 (ln_67 hG) (lk_67 hG) (by rw [(ll_67 hG)]; exact g2) dX12_isKept_15 ?_
    refine am_if_le (tgt := 23) hz1 dX12_isKept_16 (by decide) (fun c3 => ?_) (fun c3 => ?_)
    · replace h := h.1 c3
      refine am_iconst (v := 0) hz1 dX12_isKept_23 (by decide) ?_
      exact am_zreturn hz (by decide) dX12_isKept_24 h
    · replace h := h.2 c3
      refine am_iconst (v := 1) hz1 dX12_isKept_19 (by decide) ?_
      refine am_goto (tgt := 24) hz1 dX12_isKept_20 (by decide) ?_
      exact am_zreturn hz (by decide) dX12_isKept_24 h
set_option maxRecDepth 100000 in
set_option maxHeartbeats 4000000 in
theorem c_X12_isKept {l : Launch} {D : va_G} {B : Heap} {G : amG} {I : amI} {L : amL}  (hG : Lay G)  (v1 : Int32)  : Fx l D B yX12_isKept cX12_isKept 2 (some .boolean) 1 [.ref (B.size + 64), .int v1] G I L (some (.int (bI (m_kept I v1)))) I L := by
  refine Mx.of (by decide) rfl rfl (fun z e1 e2 e3 hz => ?_)
  subst e1; subst e2; subst e3
  refine b_X12_isKept_0 hz hG ?_
  refine ⟨fun h => ⟨?_, rfl, rfl, rfl⟩, fun h => ⟨?_, fun h2 => ⟨?_, rfl, rfl, rfl⟩, fun h2 => ⟨?_, rfl, rfl, rfl⟩⟩⟩
  · rw [m_kept, h]; rfl
  · obtain ⟨x, hx, rfl⟩ := isIn_in (N := 1) (by decide) (by decide) h
    exact in_nI (by omega) (by decide)
  · rw [m_kept, h, decide_eq_false (not_not_intro h2)]; rfl
  · rw [m_kept, h, decide_eq_true h2]; rfl
set_option maxRecDepth 100000 in
set_option maxHeartbeats 4000000 in
theorem b_X12_isFunction_0 {z : amZ} {post : amP} {G : amG} {I : amI} {L : amL} (hz : Go z cX12_isFunction RX12 1 (some .boolean) 1 0 0 post) (hG : Lay G) {v0 : Int32} (h : post (some (.int (bI (m_isIn v0.toInt64 (0 : Int64) (3 : Int64))))) G I L) : Wx z 0 0 0 [(0, .int v0)] [] G I L := by
  have hz1 := hz.1
  refine am_iload_n hz1 dX12_isFunction_0 0 rfl rfl ?_
  refine am_i2l hz1 dX12_isFunction_1 ?_
  refine am_lconst (v := 0) hz1 dX12_isFunction_2 (by decide) ?_
  refine am_ldc2 hz1 kc_X12_274 dX12_isFunction_3 ?_
  refine am_cSf hz ct_X12_82 [.long v0.toInt64, .long (0 : Int64), .long (3 : Int64)] [] (c_X12_isIn hG v0.toInt64 (0 : Int64) (3 : Int64) ) rfl rfl rfl ⟨Nat.le_refl _, Nat.le_refl _⟩ (Nat.le_of_ble_eq_true rfl) dX12_isFunction_6 ?_
  exact am_zreturn hz (bI_01 _) dX12_isFunction_9 h
set_option maxRecDepth 100000 in
set_option maxHeartbeats 4000000 in
theorem c_X12_isFunction {l : Launch} {D : va_G} {B : Heap} {G : amG} {I : amI} {L : amL}  (hG : Lay G)  (v0 : Int32)  : Fx l D B yX12_isFunction cX12_isFunction 1 (some .boolean) 1 [.int v0] G I L (some (.int (bI (m_isIn v0.toInt64 0 3)))) I L := by
  refine Mx.of (by decide) rfl rfl (fun z e1 e2 e3 hz => ?_)
  subst e1; subst e2; subst e3
  refine b_X12_isFunction_0 hz hG ?_
  exact ⟨rfl, rfl, rfl, rfl⟩
set_option maxRecDepth 100000 in
set_option maxHeartbeats 4000000 in
theorem b_X12_at_0 {z : amZ} {post : amP} {G : amG} {I : amI} {L : amL} (hz : Go z cX12_at RX12 3 (some .int) 0 0 0 post) (hG : Lay G) {v0 : Int32} {v1 : Int32} {v2 : Int32} (h : post (some (.int ((((17 : Int32) + ((256 : Int32) * v0)) + ((16 : Int32) * v1)) + v2))) G I L) : Wx z 0 0 0 [(0, .int v0), (1, .int v1), (2, .int v2)] [] G I L := by
  have hz1 := hz.1
  refine am_bipush (v := 17) hz1 dX12_at_0 (by decide) ?_
  refine am_sipush (v := 256) hz1 dX12_at_2 (by decide) ?_
  refine am_iload_n hz1 dX12_at_5 0 rfl rfl ?_
  refine am_imul hz1 dX12_at_6 ?_
  refine am_iadd hz1 dX12_at_7 ?_
  refine am_bipush (v := 16) hz1 dX12_at_8 (by decide) ?_
  refine am_iload_n hz1 dX12_at_10 1 rfl rfl ?_
  refine am_imul hz1 dX12_at_11 ?_
  refine am_iadd hz1 dX12_at_12 ?_
  refine am_iload_n hz1 dX12_at_13 2 rfl rfl ?_
  refine am_iadd hz1 dX12_at_14 ?_
  exact am_ireturn hz dX12_at_15 h
set_option maxRecDepth 100000 in
set_option maxHeartbeats 4000000 in
theorem c_X12_at {l : Launch} {D : va_G} {B : Heap} {G : amG} {I : amI} {L : amL}  (hG : Lay G)  (v0 : Int32) (v1 : Int32) (v2 : Int32)  : Fx l D B yX12_at cX12_at 3 (some .int) 0 [.int v0, .int v1, .int v2] G I L (some (.int (m_at v0 v1 v2))) I L := by
  refine Mx.of (by decide) rfl rfl (fun z e1 e2 e3 hz => ?_)
  subst e1; subst e2; subst e3
  refine b_X12_at_0 hz hG ?_
  exact ⟨rfl, rfl, rfl, rfl⟩
set_option maxRecDepth 100000 in
set_option maxHeartbeats 4000000 in
theorem b_X12_partOf_0 {z : amZ} {post : amP} {G : amG} {I : amI} {L : amL} (hz : Go z cX12_partOf RX12 2 (some .int) 0 0 0 post) (hG : Lay G) {v0 : Int32} {v1 : Int32} (h : post (some (.int ((v0 >>> (((2 : Int32) * ((3 : Int32) - v1)) &&& 31)) &&& (3 : Int32)))) G I L) : Wx z 0 0 0 [(0, .int v0), (1, .int v1)] [] G I L := by
  have hz1 := hz.1
  refine am_iload_n hz1 dX12_partOf_0 0 rfl rfl ?_
  refine am_iconst (v := 2) hz1 dX12_partOf_1 (by decide) ?_
  refine am_iconst (v := 3) hz1 dX12_partOf_2 (by decide) ?_
  refine am_iload_n hz1 dX12_partOf_3 1 rfl rfl ?_
  refine am_isub hz1 dX12_partOf_4 ?_
  refine am_imul hz1 dX12_partOf_5 ?_
  refine am_ishr hz1 dX12_partOf_6 ?_
  refine am_iconst (v := 3) hz1 dX12_partOf_7 (by decide) ?_
  refine am_iand hz1 dX12_partOf_8 ?_
  exact am_ireturn hz dX12_partOf_9 h
set_option maxRecDepth 100000 in
set_option maxHeartbeats 4000000 in
theorem c_X12_partOf {l : Launch} {D : va_G} {B : Heap} {G : amG} {I : amI} {L : amL}  (hG : Lay G)  (v0 : Int32) (v1 : Int32)  : Fx l D B yX12_partOf cX12_partOf 2 (some .int) 0 [.int v0, .int v1] G I L (some (.int (m_part v0 v1))) I L := by
  refine Mx.of (by decide) rfl rfl (fun z e1 e2 e3 hz => ?_)
  subst e1; subst e2; subst e3
  refine b_X12_partOf_0 hz hG ?_
  exact ⟨rfl, rfl, rfl, rfl⟩
set_option maxRecDepth 100000 in
set_option maxHeartbeats 4000000 in
theorem b_X12_byteAt_0 {z : amZ} {post : amP} {G : amG} {I : amI} {L : amL} (hz : Go z cX12_byteAt RX12 2 (some .int) 0 0 0 post) (hG : Lay G) {v1 : Int32} (h : (((I 64 7) ≤ v1) → post (some (.int (-1))) G I L) ∧ ((¬ (I 64 7) ≤ v1) → vp_in v1 120 ∧ post (some (.int ((I 69 v1.toNatClampNeg) &&& (255 : Int32)))) G I L)) : Wx z 0 0 0 [(0, .ref ((zB z).size + 64)), (1, .int v1)] [] G I L := by
  have hz1 := hz.1
  refine am_iload_n hz1 dX12_byteAt_0 1 rfl rfl ?_
  refine am_aload_n hz1 dX12_byteAt_1 0 rfl rfl ?_
  refine am_getI hz1 fl_X12_130 (ln_64 hG) (lk_64 hG) rfl dX12_byteAt_2 ?_
  refine am_icmp_ge (tgt := 21) hz1 dX12_byteAt_5 (by decide) (fun c1 => ?_) (fun c1 => ?_)
  · replace h := h.1 c1
    refine am_iconst (v := (-1)) hz1 dX12_byteAt_21 (by decide) ?_
    exact am_ireturn hz dX12_byteAt_22 h
  · replace h := h.2 c1
    refine am_aload_n hz1 dX12_byteAt_8 0 rfl rfl ?_
    refine am_getR hz1 fl_X12_25 (ln_64 hG) (lk_64 hG) (lr_64_6 hG) rfl dX12_byteAt_9 ?_
    refine am_iload_n hz1 dX12_byteAt_12 1 rfl rfl ?_
    obtain ⟨g2, h⟩ := h
    refine am_bald hz1 (ln_69 hG) (lk_69 hG) (by rw [(ll_69 hG)]; exact g2) dX12_byteAt_13 ?_
    refine am_sipush (v := 255) hz1 dX12_byteAt_14 (by decide) ?_
    refine am_iand hz1 dX12_byteAt_17 ?_
    refine am_goto (tgt := 22) hz1 dX12_byteAt_18 (by decide) ?_
    exact am_ireturn hz dX12_byteAt_22 h
set_option maxRecDepth 100000 in
set_option maxHeartbeats 4000000 in
theorem c_X12_byteAt {l : Launch} {D : va_G} {B : Heap} {G : amG} {I : amI} {L : amL}  (hG : Lay G)  (v1 : Int32) (ht : mtOk I) (hi : vp_in v1 100000) : Fx l D B yX12_byteAt cX12_byteAt 2 (some .int) 0 [.ref (B.size + 64), .int v1] G I L (some (.int (m_byte I v1))) I L := by
  refine Mx.of (by decide) rfl rfl (fun z e1 e2 e3 hz => ?_)
  subst e1; subst e2; subst e3
  refine b_X12_byteAt_0 hz hG ?_
  obtain ⟨s, hs, e⟩ := ht
  obtain ⟨k, hk, rfl⟩ := vp_in_of hi (by decide)
  refine ⟨fun h => ⟨by rw [m_byte, if_pos h], rfl, rfl, rfl⟩, fun h => ⟨?_, by rw [m_byte, if_neg h], rfl, rfl, rfl⟩⟩
  rw [e, nI_leI (by omega) (by omega)] at h
  exact in_nI (by omega) (by decide)
set_option maxRecDepth 100000 in
set_option maxHeartbeats 4000000 in
theorem b_X12_fails_0 {z : amZ} {post : amP} {G : amG} {I : amI} {L : amL} (hz : Go z cX12_fails RX12 3 (some .boolean) 0 0 0 post) (hG : Lay G) {v1 : Int32} {v2 : Int32} (h : post (some (.int 0)) G (setI I 64 (upd (I 64) 9 (((8 : Int32) * v2) + v1))) L) : Wx z 0 0 0 [(0, .ref ((zB z).size + 64)), (1, .int v1), (2, .int v2)] [] G I L := by
  have hz1 := hz.1
  refine am_aload_n hz1 dX12_fails_0 0 rfl rfl ?_
  refine am_bipush (v := 8) hz1 dX12_fails_1 (by decide) ?_
  refine am_iload_n hz1 dX12_fails_3 2 rfl rfl ?_
  refine am_imul hz1 dX12_fails_4 ?_
  refine am_iload_n hz1 dX12_fails_5 1 rfl rfl ?_
  refine am_iadd hz1 dX12_fails_6 ?_
  refine am_putI hz1 fl_X12_139 (ln_64 hG) (lk_64 hG) rfl rfl (fun _ => rfl) dX12_fails_7 ?_
  refine am_iconst (v := 0) hz1 dX12_fails_10 (by decide) ?_
  exact am_zreturn hz (by decide) dX12_fails_11 h
set_option maxRecDepth 100000 in
set_option maxHeartbeats 4000000 in
theorem c_X12_fails {l : Launch} {D : va_G} {B : Heap} {G : amG} {I : amI} {L : amL}  (hG : Lay G)  (v1 : Int32) (v2 : Int32)  : Fx l D B yX12_fails cX12_fails 3 (some .boolean) 0 [.ref (B.size + 64), .int v1, .int v2] G I L (some (.int (bI (false)))) (setI I 64 (upd (I 64) 9 (8 * v2 + v1))) L := by
  refine Mx.of (by decide) rfl rfl (fun z e1 e2 e3 hz => ?_)
  subst e1; subst e2; subst e3
  refine b_X12_fails_0 hz hG ?_
  exact ⟨rfl, rfl, rfl, rfl⟩
set_option maxRecDepth 100000 in
set_option maxHeartbeats 4000000 in
theorem b_X12_mapOf_0 {z : amZ} {post : amP} {G : amG} {I : amI} {L : amL} (hz : Go z cX12_mapOf RX12 2 (some .int) 0 0 0 post) (hG : Lay G) {v1 : Int32} (h : vp_in ((1057 : Int32) + v1) 1074 ∧ post (some (.int ((L 65 ((1057 : Int32) + v1).toNatClampNeg).toInt32))) G I L) : Wx z 0 0 0 [(0, .ref ((zB z).size + 64)), (1, .int v1)] [] G I L := by
  have hz1 := hz.1
  refine am_aload_n hz1 dX12_mapOf_0 0 rfl rfl ?_
  refine am_getR hz1 fl_X12_9 (ln_64 hG) (lk_64 hG) (lr_64_0 hG) rfl dX12_mapOf_1 ?_
  refine am_sipush (v := 1057) hz1 dX12_mapOf_4 (by decide) ?_
  refine am_iload_n hz1 dX12_mapOf_7 1 rfl rfl ?_
  refine am_iadd hz1 dX12_mapOf_8 ?_
  obtain ⟨g1, h⟩ := h
  refine am_lald hz1 (ln_65 hG) (lk_65 hG) (by rw [(ll_65 hG)]; exact g1) dX12_mapOf_9 ?_
  refine am_l2i hz1 dX12_mapOf_10 ?_
  exact am_ireturn hz dX12_mapOf_11 h
set_option maxRecDepth 100000 in
set_option maxHeartbeats 4000000 in
theorem c_X12_mapOf {l : Launch} {D : va_G} {B : Heap} {G : amG} {I : amI} {L : amL}  (hG : Lay G)  (v1 : Int32) (hi : vp_in v1 16) : Fx l D B yX12_mapOf cX12_mapOf 2 (some .int) 0 [.ref (B.size + 64), .int v1] G I L (some (.int (m_map L v1))) I L := by
  refine Mx.of (by decide) rfl rfl (fun z e1 e2 e3 hz => ?_)
  subst e1; subst e2; subst e3
  refine b_X12_mapOf_0 hz hG ?_
  obtain ⟨k, hk, rfl⟩ := vp_in_of hi (by decide)
  exact ⟨by rw [show (1057 : Int32) = nI 1057 from rfl, nI_add]; exact in_nI (by omega) (by decide), rfl, rfl, rfl, rfl⟩
set_option maxRecDepth 100000 in
set_option maxHeartbeats 4000000 in
theorem b_X12_isAtMostThere_0 {z : amZ} {post : amP} {G : amG} {I : amI} {L : amL} (hz : Go z cX12_isAtMostThere RX12 3 (some .boolean) 1 0 0 post) (hG : Lay G) {v1 : Int32} {v2 : Int32} (h : vp_in v1 32 ∧ post (some (.int (bI (m_has (I 68 v1.toNatClampNeg) v2)))) G I L) : Wx z 0 0 0 [(0, .ref ((zB z).size + 64)), (1, .int v1), (2, .int v2)] [] G I L := by
  have hz1 := hz.1
  refine am_aload_n hz1 dX12_isAtMostThere_0 0 rfl rfl ?_
  refine am_getR hz1 fl_X12_22 (ln_64 hG) (lk_64 hG) (lr_64_4 hG) rfl dX12_isAtMostThere_1 ?_
  refine am_iload_n hz1 dX12_isAtMostThere_4 1 rfl rfl ?_
  obtain ⟨g1, h⟩ := h
  refine am_iald hz1 (ln_68 hG) (lk_68 hG) (by rw [(ll_68 hG)]; exact g1) dX12_isAtMostThere_5 ?_
  refine am_iload_n hz1 dX12_isAtMostThere_6 2 rfl rfl ?_
  refine am_cSf hz ct_X12_90 [.int (I 68 v1.toNatClampNeg), .int v2] [] (c_X12_has hG (I 68 v1.toNatClampNeg) v2 ) rfl rfl rfl ⟨Nat.le_refl _, Nat.le_refl _⟩ (Nat.le_of_ble_eq_true rfl) dX12_isAtMostThere_7 ?_
  exact am_zreturn hz (bI_01 _) dX12_isAtMostThere_10 h
set_option maxRecDepth 100000 in
set_option maxHeartbeats 4000000 in
theorem c_X12_isAtMostThere {l : Launch} {D : va_G} {B : Heap} {G : amG} {I : amI} {L : amL}  (hG : Lay G)  (v1 : Int32) (v2 : Int32) (hi : vp_in v1 32) : Fx l D B yX12_isAtMostThere cX12_isAtMostThere 3 (some .boolean) 1 [.ref (B.size + 64), .int v1, .int v2] G I L (some (.int (bI (m_amT I v1 v2)))) I L := by
  refine Mx.of (by decide) rfl rfl (fun z e1 e2 e3 hz => ?_)
  subst e1; subst e2; subst e3
  refine b_X12_isAtMostThere_0 hz hG ?_
  exact ⟨hi, rfl, rfl, rfl, rfl⟩
set_option maxRecDepth 100000 in
set_option maxHeartbeats 4000000 in
theorem b_X12_isThere_0 {z : amZ} {post : amP} {G : amG} {I : amI} {L : amL} (hz : Go z cX12_isThere RX12 2 (some .boolean) 1 0 0 post) (hG : Lay G) {v1 : Int32} (h : post (some (.int (bI (m_isIn v1.toInt64 (0 : Int64) (((I 67 (0 : Int32).toNatClampNeg) - (1 : Int32)).toInt64))))) G I L) : Wx z 0 0 0 [(0, .ref ((zB z).size + 64)), (1, .int v1)] [] G I L := by
  have hz1 := hz.1
  refine am_iload_n hz1 dX12_isThere_0 1 rfl rfl ?_
  refine am_i2l hz1 dX12_isThere_1 ?_
  refine am_lconst (v := 0) hz1 dX12_isThere_2 (by decide) ?_
  refine am_aload_n hz1 dX12_isThere_3 0 rfl rfl ?_
  refine am_getR hz1 fl_X12_18 (ln_64 hG) (lk_64 hG) (lr_64_3 hG) rfl dX12_isThere_4 ?_
  refine am_iconst (v := 0) hz1 dX12_isThere_7 (by decide) ?_
  refine am_iald hz1 (ln_67 hG) (lk_67 hG) (by rw [(ll_67 hG)]; exact in_nI (n := 0) (by decide) (by decide)) dX12_isThere_8 ?_
  refine am_iconst (v := 1) hz1 dX12_isThere_9 (by decide) ?_
  refine am_isub hz1 dX12_isThere_10 ?_
  refine am_i2l hz1 dX12_isThere_11 ?_
  refine am_cSf hz ct_X12_82 [.long v1.toInt64, .long (0 : Int64), .long (((I 67 (0 : Int32).toNatClampNeg) - (1 : Int32)).toInt64)] [] (c_X12_isIn hG v1.toInt64 (0 : Int64) (((I 67 (0 : Int32).toNatClampNeg) - (1 : Int32)).toInt64) ) rfl rfl rfl ⟨Nat.le_refl _, Nat.le_refl _⟩ (Nat.le_of_ble_eq_true rfl) dX12_isThere_12 ?_
  exact am_zreturn hz (bI_01 _) dX12_isThere_15 h
set_option maxRecDepth 100000 in
set_option maxHeartbeats 4000000 in
theorem c_X12_isThere {l : Launch} {D : va_G} {B : Heap} {G : amG} {I : amI} {L : amL}  (hG : Lay G)  (v1 : Int32)  : Fx l D B yX12_isThere cX12_isThere 2 (some .boolean) 1 [.ref (B.size + 64), .int v1] G I L (some (.int (bI (m_isIn v1.toInt64 0 ((I 67 0 - 1).toInt64))))) I L := by
  refine Mx.of (by decide) rfl rfl (fun z e1 e2 e3 hz => ?_)
  subst e1; subst e2; subst e3
  refine b_X12_isThere_0 hz hG ?_
  exact ⟨rfl, rfl, rfl, rfl⟩
set_option maxRecDepth 100000 in
set_option maxHeartbeats 4000000 in
theorem b_X12_sizeFormed_0 {z : amZ} {post : amP} {G : amG} {I : amI} {L : amL} (hz : Go z cX12_sizeFormed RX12 3 (some .int) 1 0 0 post) (hG : Lay G) {v1 : Int32} {v2 : Int32} (h : ((¬ v1 = (5 : Int32)) → vp_in v2 2 ∧ post (some (.int ((m_many L) + (I 67 v2.toNatClampNeg)))) G I L) ∧ ((v1 = (5 : Int32)) → vp_in v2 2 ∧ post (some (.int ((m_many L) * (I 67 v2.toNatClampNeg)))) G I L)) : Wx z 0 0 0 [(0, .ref ((zB z).size + 64)), (1, .int v1), (2, .int v2)] [] G I L := by
  have hz1 := hz.1
  refine am_iload_n hz1 dX12_sizeFormed_0 1 rfl rfl ?_
  refine am_iconst (v := 5) hz1 dX12_sizeFormed_1 (by decide) ?_
  refine am_icmp_ne (tgt := 19) hz1 dX12_sizeFormed_2 (by decide) (fun c1 => ?_) (fun c1 => ?_)
  · replace h := h.1 c1
    refine am_aload_n hz1 dX12_sizeFormed_19 0 rfl rfl ?_
    refine am_cVf hz cv_X12_78 [] [] (c_X12_many hG  ) (ln_64 hG) (lk_64 hG) rfl rfl rfl ⟨Nat.le_refl _, Nat.le_refl _⟩ (Nat.le_of_ble_eq_true rfl) dX12_sizeFormed_20 ?_
    refine am_aload_n hz1 dX12_sizeFormed_23 0 rfl rfl ?_
    refine am_getR hz1 fl_X12_18 (ln_64 hG) (lk_64 hG) (lr_64_3 hG) rfl dX12_sizeFormed_24 ?_
    refine am_iload_n hz1 dX12_sizeFormed_27 2 rfl rfl ?_
    obtain ⟨g2, h⟩ := h
    refine am_iald hz1 (ln_67 hG) (lk_67 hG) (by rw [(ll_67 hG)]; exact g2) dX12_sizeFormed_28 ?_
    refine am_iadd hz1 dX12_sizeFormed_29 ?_
    exact am_ireturn hz dX12_sizeFormed_30 h
  · replace h := h.2 c1
    refine am_aload_n hz1 dX12_sizeFormed_5 0 rfl rfl ?_
    refine am_cVf hz cv_X12_78 [] [] (c_X12_many hG  ) (ln_64 hG) (lk_64 hG) rfl rfl rfl ⟨Nat.le_refl _, Nat.le_refl _⟩ (Nat.le_of_ble_eq_true rfl) dX12_sizeFormed_6 ?_
    refine am_aload_n hz1 dX12_sizeFormed_9 0 rfl rfl ?_
    refine am_getR hz1 fl_X12_18 (ln_64 hG) (lk_64 hG) (lr_64_3 hG) rfl dX12_sizeFormed_10 ?_
    refine am_iload_n hz1 dX12_sizeFormed_13 2 rfl rfl ?_
    obtain ⟨g3, h⟩ := h
    refine am_iald hz1 (ln_67 hG) (lk_67 hG) (by rw [(ll_67 hG)]; exact g3) dX12_sizeFormed_14 ?_
    refine am_imul hz1 dX12_sizeFormed_15 ?_
    refine am_goto (tgt := 30) hz1 dX12_sizeFormed_16 (by decide) ?_
    exact am_ireturn hz dX12_sizeFormed_30 h
set_option maxRecDepth 100000 in
set_option maxHeartbeats 4000000 in
theorem c_X12_sizeFormed {l : Launch} {D : va_G} {B : Heap} {G : amG} {I : amI} {L : amL}  (hG : Lay G)  (v1 : Int32) (v2 : Int32) (hi : vp_in v2 2) : Fx l D B yX12_sizeFormed cX12_sizeFormed 3 (some .int) 1 [.ref (B.size + 64), .int v1, .int v2] G I L (some (.int (if v1 = 5 then m_many L * I 67 v2.toNatClampNeg else m_many L + I 67 v2.toNatClampNeg))) I L := by
  refine Mx.of (by decide) rfl rfl (fun z e1 e2 e3 hz => ?_)
  subst e1; subst e2; subst e3
  refine b_X12_sizeFormed_0 hz hG ?_
  exact ⟨fun h => ⟨hi, by rw [if_neg h], rfl, rfl, rfl⟩, fun h => ⟨hi, by rw [if_pos h], rfl, rfl, rfl⟩⟩
