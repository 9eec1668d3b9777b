/-! SETS COUNTED: down-sets of a set, by size -/
noncomputable def pB (p : Prop) : Bool := @decide p (Classical.propDecidable _)
theorem pB_t {p : Prop} : pB p = true ↔ p := by unfold pB; exact @decide_eq_true_iff _ (Classical.propDecidable _)
theorem pB_c {p q : Prop} (h : p ↔ q) : pB p = pB q := by rw [Bool.eq_iff_iff, pB_t, pB_t, h]
theorem ct_split {p q : Nat → Bool} : ∀ {n : Nat}, ct p n = ct (fun t => p t && q t) n + ct (fun t => p t && !q t) n
  | 0 => rfl
  | n + 1 => by
    rw [ct, ct, ct, ct_split (p := p) (q := q) (n := n)]
    cases p n <;> cases q n <;> simp <;> omega
theorem ct_bij {p q : Nat → Bool} {f g : Nat → Nat} {n m : Nat} (h1 : ∀ i, i < n → p i = true → f i < m ∧ q (f i) = true ∧ g (f i) = i) (h2 : ∀ j, j < m → q j = true → g j < n ∧ p (g j) = true ∧ f (g j) = j) : ct p n = ct q m :=
  Nat.le_antisymm (ct_inj (f := f) (fun i hi hp => ⟨(h1 i hi hp).1, (h1 i hi hp).2.1⟩) (fun i j hi hj a b e => by rw [← (h1 i hi a).2.2, ← (h1 j hj b).2.2, e])) (ct_inj (f := g) (fun i hi hp => ⟨(h2 i hi hp).1, (h2 i hi hp).2.1⟩) (fun i j hi hj a b e => by rw [← (h2 i hi a).2.2, ← (h2 j hj b).2.2, e]))
theorem mk_ex {p : Nat → Bool} {n : Nat} (h16 : n ≤ 16) : ∃ k, k < 2 ^ n ∧ ∀ i, k.testBit i = (decide (i < n) && p i) := by
  obtain ⟨k, hk, _, hb⟩ := set16 (x := mkset p n) (fun i hi hi2 => by rw [b_mk p n (by omega) i hi2, decide_eq_false (by omega)]; rfl)
  have hk2 : ∀ i, k.testBit i = (decide (i < n) && p i) := fun i => by
    by_cases hi : i < 32
    · rw [hb i hi, b_mk p n (by omega) i hi]
    · rw [decide_eq_false (by omega), Bool.false_and]
      exact Nat.testBit_lt_two_pow (Nat.lt_of_lt_of_le (show k < 2 ^ 16 by omega) (Nat.pow_le_pow_right (by decide) (by omega)))
  refine ⟨k, Nat.lt_pow_two_of_testBit _ (fun i hi => ?_), hk2⟩
  rw [hk2 i, decide_eq_false (by omega)]; rfl
noncomputable def mkN (p : Nat → Bool) (n : Nat) : Nat := @Classical.epsilon Nat ⟨0⟩ (fun k => k < 2 ^ n ∧ ∀ i, k.testBit i = (decide (i < n) && p i))
theorem mkN_is {p : Nat → Bool} {n : Nat} (h16 : n ≤ 16) : mkN p n < 2 ^ n ∧ ∀ i, (mkN p n).testBit i = (decide (i < n) && p i) := @Classical.epsilon_spec Nat (fun k => k < 2 ^ n ∧ ∀ i, k.testBit i = (decide (i < n) && p i)) (mk_ex h16)
theorem tb_out {t n i : Nat} (ht : t < 2 ^ n) (hi : n ≤ i) : t.testBit i = false := Nat.testBit_lt_two_pow (Nat.lt_of_lt_of_le ht (Nat.pow_le_pow_right (by decide) hi))
theorem mkN_eq {p : Nat → Bool} {n t : Nat} (h16 : n ≤ 16) (ht : t < 2 ^ n) (h : ∀ i, i < n → p i = t.testBit i) : mkN p n = t := by
  apply Nat.eq_of_testBit_eq
  intro i
  rw [(mkN_is h16).2 i]
  by_cases hi : i < n
  · rw [decide_eq_true hi, h i hi]; rfl
  · rw [decide_eq_false hi, tb_out ht (by omega)]; rfl
theorem ct_or {p q : Nat → Bool} : ∀ {n : Nat}, (∀ i, i < n → p i = true → q i = false) → ct (fun i => p i || q i) n = ct p n + ct q n
  | 0, _ => rfl
  | n + 1, h => by
    rw [ct, ct, ct, ct_or (fun i hi => h i (by omega))]
    have := h n (by omega)
    cases e1 : p n <;> cases e2 : q n
    · simp
    · simp; omega
    · simp; omega
    · rw [e1, e2] at this; exact absurd (this rfl) (by decide)
/-- t is a down-set of S with j elements -/
def dsQ (n : Nat) (A : Nat → Int32) (S : Nat → Bool) (j t : Nat) : Prop := (∀ i, i < n → t.testBit i = true → S i = true) ∧ (∀ a x, a < n → x < n → t.testBit a = true → S x = true → bt (A x) a = true → t.testBit x = true) ∧ ct (fun i => t.testBit i) n = j
noncomputable def dC (n : Nat) (A : Nat → Int32) (S : Nat → Bool) (j : Nat) : Nat := ct (fun t => pB (dsQ n A S j t)) (2 ^ n)
theorem dC_c {n j : Nat} {A : Nat → Int32} {S T : Nat → Bool} (h : ∀ i, i < n → S i = T i) : dC n A S j = dC n A T j := by
  refine ct_cong (fun t _ => pB_c ?_)
  unfold dsQ
  constructor
  · rintro ⟨a, b, c⟩
    exact ⟨fun i hi q => by rw [← h i hi]; exact a i hi q, fun a x ha hx q1 q2 q3 => b a x ha hx q1 (by rw [h x hx]; exact q2) q3, c⟩
  · rintro ⟨a, b, c⟩
    exact ⟨fun i hi q => by rw [h i hi]; exact a i hi q, fun a x ha hx q1 q2 q3 => b a x ha hx q1 (by rw [← h x hx]; exact q2) q3, c⟩
theorem lt_leX {n : Nat} {A : Nat → Int32} (hP : PO n A) (h16 : n ≤ 16) {x y z : Nat} (hx : x < n) (hy : y < n) (hz : z < n) (h1 : bt (A x) y = true) (h2 : le A y z = true) : bt (A x) z = true := by
  rw [le_b (by omega) (by omega), Bool.or_eq_true, decide_eq_true_eq] at h2
  rcases h2 with h | h
  · exact hP.2.2 x y z hx hy hz h1 h
  · rw [h]; exact h1
theorem le_ltX {n : Nat} {A : Nat → Int32} (hP : PO n A) (h16 : n ≤ 16) {x y z : Nat} (hx : x < n) (hy : y < n) (hz : z < n) (h1 : le A x y = true) (h2 : bt (A y) z = true) : bt (A x) z = true := by
  rw [le_b (by omega) (by omega), Bool.or_eq_true, decide_eq_true_eq] at h1
  rcases h1 with h | h
  · exact hP.2.2 x y z hx hy hz h h2
  · rw [← h]; exact h2
/-- with x, all below it; without x, none above it -/
theorem dC_s {n x : Nat} {A : Nat → Int32} {S : Nat → Bool} (hP : PO n A) (h16 : n ≤ 16) (hx : x < n) (hS : S x = true) (j : Nat) : dC n A S j = dC n A (fun i => S i && !le A x i) j + (if ct (fun i => S i && le A i x) n ≤ j then dC n A (fun i => S i && !le A i x) (j - ct (fun i => S i && le A i x) n) else 0) := by
  have hxx : le A x x = true := le_rf (by omega)
  rw [dC, ct_split (q := fun t => t.testBit x), Nat.add_comm]
  congr 1
  · rw [dC]
    refine ct_cong (fun t ht => ?_)
    rw [Bool.eq_iff_iff, Bool.and_eq_true, pB_t, pB_t, Bool.not_eq_true']
    constructor
    · rintro ⟨⟨a, b, c⟩, d⟩
      refine ⟨fun i hi q => ?_, fun a' y ha hy q1 q2 q3 => b a' y ha hy q1 (by rw [Bool.and_eq_true] at q2; exact q2.1) q3, c⟩
      show (S i && !le A x i) = true
      rw [a i hi q, Bool.true_and, Bool.not_eq_true', Bool.eq_false_iff]
      intro hle
      rw [le_b (by omega) (by omega), Bool.or_eq_true, decide_eq_true_eq] at hle
      rcases hle with h | h
      · have := b i x hi hx q hS h
        rw [d] at this; cases this
      · rw [h, d] at q; cases q
    · rintro ⟨a, b, c⟩
      refine ⟨⟨fun i hi q => ?_, fun a' y ha hy q1 q2 q3 => b a' y ha hy q1 ?_ q3, c⟩, ?_⟩
      · have := a i hi q
        rw [Bool.and_eq_true] at this
        exact this.1
      · have := a a' ha q1
        rw [Bool.and_eq_true, Bool.not_eq_true'] at this
        show (S y && !le A x y) = true
        rw [q2, Bool.true_and, Bool.not_eq_true', Bool.eq_false_iff]
        intro hle
        have h2 := le_ltX hP h16 hx hy ha hle q3
        have h3 : le A x a' = true := by rw [le_b (by omega) (by omega), h2]; rfl
        rw [h3] at this
        exact absurd this.2 (by decide)
      · rw [Bool.eq_false_iff]
        intro q
        have : (S x && !le A x x) = true := a x hx q
        rw [hxx, Bool.not_true, Bool.and_false] at this; cases this
  · have hsz : ∀ t : Nat, dsQ n A S j t → t.testBit x = true → ∀ i, i < n → (S i && le A i x) = true → t.testBit i = true := fun t h hb i hi q => by
      rw [Bool.and_eq_true] at q
      have hle := q.2
      rw [le_b (by omega) (by omega), Bool.or_eq_true, decide_eq_true_eq] at hle
      rcases hle with h2 | h2
      · exact h.2.1 x i hx hi hb q.1 h2
      · rw [← h2]; exact hb
    have hpart : ∀ t : Nat, (∀ i, i < n → (S i && le A i x) = true → t.testBit i = true) → (∀ i, i < n → t.testBit i = true → S i = true) → ct (fun i => t.testBit i) n = ct (fun i => S i && le A i x) n + ct (fun i => t.testBit i && !le A i x) n := fun t h h2 => by
      rw [← ct_or (fun i hi q => by rw [Bool.and_eq_true] at q; rw [q.2]; simp)]
      refine ct_cong (fun i hi => ?_)
      cases e : t.testBit i
      · cases e2 : (S i && le A i x)
        · rfl
        · rw [h i hi e2] at e; cases e
      · rw [h2 i hi e]
        cases le A i x <;> rfl
    by_cases hj : ct (fun i => S i && le A i x) n ≤ j
    · rw [if_pos hj]
      refine ct_bij (f := fun t => mkN (fun i => t.testBit i && !le A i x) n) (g := fun t => mkN (fun i => t.testBit i || (S i && le A i x)) n) (fun t ht q => ?_) (fun t ht q => ?_)
      · rw [Bool.and_eq_true, pB_t] at q
        obtain ⟨hd, hb⟩ := q
        have hlow := hsz t hd hb
        obtain ⟨m1, m2⟩ := mkN_is (p := fun i => t.testBit i && !le A i x) h16
        refine ⟨m1, pB_t.mpr ⟨fun i hi q => ?_, fun a y ha hy q1 q2 q3 => ?_, ?_⟩, ?_⟩
        · rw [m2 i, Bool.and_eq_true, Bool.and_eq_true] at q
          show (S i && !le A i x) = true
          rw [hd.1 i hi q.2.1, q.2.2]; rfl
        · rw [m2 a, Bool.and_eq_true, Bool.and_eq_true] at q1
          rw [Bool.and_eq_true] at q2
          rw [m2 y, decide_eq_true hy, hd.2.1 a y ha hy q1.2.1 q2.1 q3, q2.2]; rfl
        · have := hpart t hlow hd.1
          rw [hd.2.2] at this
          rw [ct_cong (fun i hi => by rw [m2 i, decide_eq_true hi, Bool.true_and])]
          omega
        · refine mkN_eq h16 ht (fun i hi => ?_)
          rw [m2 i, decide_eq_true hi, Bool.true_and]
          cases e : t.testBit i
          · cases e2 : (S i && le A i x)
            · rfl
            · rw [hlow i hi e2] at e; cases e
          · rw [hd.1 i hi e]
            cases le A i x <;> rfl
      · have hd := pB_t.mp q
        obtain ⟨m1, m2⟩ := mkN_is (p := fun i => t.testBit i || (S i && le A i x)) h16
        have hgs : ∀ i, i < n → (mkN (fun i => t.testBit i || (S i && le A i x)) n).testBit i = true → S i = true := fun i hi q => by
          rw [m2 i, decide_eq_true hi, Bool.true_and, Bool.or_eq_true] at q
          rcases q with q | q
          · have := hd.1 i hi q
            rw [Bool.and_eq_true] at this; exact this.1
          · rw [Bool.and_eq_true] at q; exact q.1
        have hgl : ∀ i, i < n → (S i && le A i x) = true → (mkN (fun i => t.testBit i || (S i && le A i x)) n).testBit i = true := fun i hi q => by rw [m2 i, decide_eq_true hi, q, Bool.or_true]; rfl
        have hgd : ∀ i, i < n → ((mkN (fun i => t.testBit i || (S i && le A i x)) n).testBit i && !le A i x) = t.testBit i := fun i hi => by
          rw [m2 i, decide_eq_true hi, Bool.true_and]
          cases e : t.testBit i
          · cases S i <;> cases le A i x <;> rfl
          · have := hd.1 i hi e
            rw [Bool.and_eq_true] at this
            rw [this.2]; rfl
        refine ⟨m1, ?_, ?_⟩
        · rw [Bool.and_eq_true, pB_t]
          refine ⟨⟨hgs, fun a y ha hy q1 q2 q3 => ?_, ?_⟩, hgl x hx (by rw [hS, hxx]; rfl)⟩
          · rw [m2 a, decide_eq_true ha, Bool.true_and, Bool.or_eq_true] at q1
            rw [m2 y, decide_eq_true hy, Bool.true_and, Bool.or_eq_true]
            rcases q1 with q1 | q1
            · cases e : le A y x
              · left; exact hd.2.1 a y ha hy q1 (by show (S y && !le A y x) = true; rw [q2, e]; rfl) q3
              · right; rw [q2]; rfl
            · right
              rw [Bool.and_eq_true] at q1
              have h2 := lt_leX hP h16 hy ha hx q3 q1.2
              have h3 : le A y x = true := by rw [le_b (by omega) (by omega), h2]; rfl
              rw [q2, h3]; rfl
          · rw [hpart _ hgl hgs, ct_cong hgd, hd.2.2]; omega
        · exact mkN_eq h16 ht hgd
    · rw [if_neg hj, ct_0.mpr (fun t ht => ?_)]
      rw [Bool.eq_false_iff]
      intro q
      rw [Bool.and_eq_true, pB_t] at q
      have := hpart t (hsz t q.1 q.2) q.1.1
      rw [q.1.2.2] at this
      omega
/-- how many sets of j there are of m -/
def chN : Nat → Nat → Nat
  | 0, j => if j = 0 then 1 else 0
  | m + 1, j => chN m j + if 1 ≤ j then chN m (j - 1) else 0
theorem dC_0 {n j : Nat} {A : Nat → Int32} {S : Nat → Bool} (h : ∀ i, i < n → S i = false) : dC n A S j = if j = 0 then 1 else 0 := by
  have h0 : ∀ t, t < 2 ^ n → (dsQ n A S j t ↔ t = 0 ∧ j = 0) := fun t ht => by
    constructor
    · rintro ⟨a, b, c⟩
      have ht0 : t = 0 := by
        apply Nat.eq_of_testBit_eq
        intro i
        rw [Nat.zero_testBit]
        by_cases hi : i < n
        · rw [Bool.eq_false_iff]
          intro q
          have := a i hi q
          rw [h i hi] at this; cases this
        · exact tb_out ht (by omega)
      refine ⟨ht0, ?_⟩
      rw [← c, ht0]
      exact ct_0.mpr (fun i _ => Nat.zero_testBit i)
    · rintro ⟨rfl, rfl⟩
      exact ⟨fun i _ q => (by rw [Nat.zero_testBit] at q; cases q), fun a x _ _ q => (by rw [Nat.zero_testBit] at q; cases q), ct_0.mpr (fun i _ => Nat.zero_testBit i)⟩
  rw [dC]
  by_cases hj : j = 0
  · rw [if_pos hj]
    have h1 : (1 : Nat) ≤ 2 ^ n := Nat.one_le_two_pow
    have : ct (fun t => pB (dsQ n A S j t)) (2 ^ n) = ct (fun t => decide (t = 0)) (2 ^ n) := ct_cong (fun t ht => by rw [Bool.eq_iff_iff, pB_t, decide_eq_true_eq, h0 t ht]; exact ⟨fun q => q.1, fun q => ⟨q, hj⟩⟩)
    rw [this]
    have key : ∀ m, 1 ≤ m → ct (fun t => decide (t = 0)) m = 1 := by
      intro m
      induction m with
      | zero => intro q; omega
      | succ m ih =>
        intro _
        rw [ct]
        by_cases e : m = 0
        · rw [e, if_pos (by decide)]; rfl
        · rw [ih (by omega), if_neg (by rw [decide_eq_false e]; decide)]
    exact key _ h1
  · rw [if_neg hj]
    exact ct_0.mpr (fun t ht => by
      rw [Bool.eq_false_iff]
      intro q
      exact hj ((h0 t ht).mp (pB_t.mp q)).2)
/-- none below another: all sets are down-sets -/
theorem dC_a {n : Nat} {A : Nat → Int32} (hP : PO n A) (h16 : n ≤ 16) : ∀ m (S : Nat → Bool), ct S n = m → (∀ x y, x < n → y < n → S x = true → S y = true → bt (A x) y = false) → ∀ j, dC n A S j = chN m j
  | 0, S, hm, _, j => dC_0 (ct_0.mp hm)
  | m + 1, S, hm, hA, j => by
    obtain ⟨x, hx, hS, _⟩ := ct_sur (f := S) (i := 0) (n := n) (by omega)
    have e1 : ∀ i, i < n → (S i && le A i x) = decide (i = x) := fun i hi => by
      by_cases e : i = x
      · rw [e, hS, le_rf (by omega), decide_eq_true rfl]; rfl
      · rw [decide_eq_false e]
        cases hs : S i
        · rfl
        · rw [le_b (by omega) (by omega), hA i x hi hx hs hS, decide_eq_false (fun w => e w.symm)]; rfl
    have e2 : ∀ i, i < n → (S i && !le A i x) = (S i && !decide (i = x)) := fun i hi => by
      cases hs : S i
      · rfl
      · have := e1 i hi
        rw [hs, Bool.true_and] at this
        rw [this]
    have e3 : ∀ i, i < n → (S i && !le A x i) = (S i && !decide (i = x)) := fun i hi => by
      cases hs : S i
      · rfl
      · rw [le_b (by omega) (by omega), hA x i hx hi hS hs, Bool.false_or]
    have hc1 : ct (fun i => S i && le A i x) n = 1 := by
      rw [ct_cong e1]
      exact ct_one hx
    have hm2 : ct (fun i => S i && !decide (i = x)) n = m := by
      have := ct_rm (f := S) hx hS
      omega
    have hA2 : ∀ x' y, x' < n → y < n → (S x' && !decide (x' = x)) = true → (S y && !decide (y = x)) = true → bt (A x') y = false := fun x' y h1 h2 q1 q2 => hA x' y h1 h2 (by rw [Bool.and_eq_true] at q1; exact q1.1) (by rw [Bool.and_eq_true] at q2; exact q2.1)
    rw [dC_s hP h16 hx hS j, hc1, dC_c e3, dC_a hP h16 m _ hm2 hA2 j, chN]
    congr 1
    by_cases hj : 1 ≤ j
    · rw [if_pos hj, if_pos hj, dC_c e2, dC_a hP h16 m _ hm2 hA2 (j - 1)]
    · rw [if_neg hj, if_neg hj]
theorem dC_f {n : Nat} {A : Nat → Int32} {t : Nat} : dsQ n A (fun _ => true) (ct (fun i => t.testBit i) n) t ↔ dsM n A t = true := by
  rw [dsM_t]
  exact ⟨fun h a x ha hx q1 q2 => h.2.1 a x ha hx q1 rfl q2, fun h => ⟨fun _ _ _ => rfl, fun a x ha hx q1 _ q2 => h a x ha hx q1 q2, rfl⟩⟩
