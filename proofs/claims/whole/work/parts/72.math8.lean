/-! MOEBIUS VALUES from below and from above are alike; rows beyond the longest one; down-sets by size -/
theorem sumN_sw {f : Nat → Nat → Int64} {m : Nat} : ∀ {n : Nat}, sumN (fun a => sumN (fun b => f a b) m) n = sumN (fun b => sumN (fun a => f a b) n) m
  | 0 => by rw [sumN]; exact (sumN_z (fun _ _ => rfl)).symm
  | n + 1 => by rw [sumN, sumN_sw (n := n), ← sumN_add]; exact sumN_c (fun _ _ => rfl)
theorem sumC_dz {c c' : Nat → Bool} {f : Nat → Int64} {n : Nat} (h : ∀ i, i < n → (if c i = true then f i else 0) = (if c' i = true then f i else 0)) : sumC c f n = sumC c' f n := by
  rw [sumC_N, sumC_N]; exact sumN_c h
theorem neg_sum0 (s : Int64) : s + -s = 0 := by rw [← Int64.sub_eq_add_neg, Int64.sub_self]
section MU
variable {n : Nat} {A : Nat → Int32}
theorem mu_z (hP : PO n A) (h16 : n ≤ 16) {a x : Nat} (ha : a < n) (hx : x < n) (h : le A a x = false) : mu n A a x = 0 := by
  have hne : ¬ x = a := fun q => by rw [q, le_rf (by omega)] at h; cases h
  rw [mu_is hP h16 x hx, if_neg hne, ← sumC_S, sumC_n (fun y hy => ?_)]
  · rfl
  · rw [b_and, up_b, bn_bt (by omega) (by omega), decide_eq_true hy, Bool.true_and, Bool.eq_false_iff]
    intro q
    rw [Bool.and_eq_true] at q
    rw [le_tr hP (by omega) ha hy hx q.1 (lt_le (by omega) (by omega) q.2)] at h
    cases h
theorem nu_z (hP : PO n A) (h16 : n ≤ 16) {b x : Nat} (hb : b < n) (hx : x < n) (h : le A x b = false) : nu n A b x = 0 := by
  have hne : ¬ x = b := fun q => by rw [q, le_rf (by omega)] at h; cases h
  rw [nu_is hP x hx, if_neg hne, ← sumC_S, sumC_n (fun y hy => ?_)]
  · rfl
  · rw [b_and, dn_b (by omega) hb (by omega), decide_eq_true hy, Bool.true_and, Bool.eq_false_iff]
    intro q
    rw [Bool.and_eq_true] at q
    rw [le_tr hP (by omega) hx hy hb (lt_le (by omega) (by omega) q.2) q.1] at h
    cases h
theorem mu_sum (hP : PO n A) (h16 : n ≤ 16) {a x : Nat} (ha : a < n) (hx : x < n) : sumC (fun y => le A y x) (mu n A a) n = if x = a then 1 else 0 := by
  rw [sumC_rm (q := fun y => le A y x) (y := x) hx (le_rf (by omega))]
  have e : sumC (fun w => le A w x && decide (¬ w = x)) (mu n A a) n = sumS (mu n A a) (upS A a &&& bn n A x) n := by
    rw [← sumC_S]
    refine sumC_dz (fun y hy => ?_)
    rw [b_and, up_b, bn_bt (by omega) (by omega), decide_eq_true hy, Bool.true_and, lt_b hP (by omega) hy hx]
    cases h : le A a y
    · rw [mu_z hP h16 ha hy h, ite_self, ite_self]
    · rw [Bool.true_and, Bool.and_comm]
  rw [e, mu_is hP h16 x hx]
  by_cases q : x = a
  · rw [if_pos q, if_pos q, ← sumC_S, sumC_n (fun y hy => ?_)]
    · rfl
    · rw [b_and, up_b, bn_bt (by omega) (by omega), decide_eq_true hy, Bool.true_and, lt_b hP (by omega) hy hx, Bool.eq_false_iff]
      intro g
      rw [Bool.and_eq_true, Bool.and_eq_true, decide_eq_true_eq] at g
      rw [q] at g
      exact g.2.1 (le_as hP (by omega) hy ha g.2.2 g.1)
  · rw [if_neg q, if_neg q, neg_sum0]
theorem nu_sum (hP : PO n A) (h16 : n ≤ 16) {b x : Nat} (hb : b < n) (hx : x < n) : sumC (fun y => le A x y) (nu n A b) n = if x = b then 1 else 0 := by
  rw [sumC_rm (q := fun y => le A x y) (y := x) hx (le_rf (by omega))]
  have e : sumC (fun w => le A x w && decide (¬ w = x)) (nu n A b) n = sumS (nu n A b) (dnS n A b &&& A x) n := by
    rw [← sumC_S]
    refine sumC_dz (fun y hy => ?_)
    rw [b_and, dn_b (by omega) hb (by omega), decide_eq_true hy, Bool.true_and, lt_b hP (by omega) hx hy]
    cases h : le A y b
    · rw [nu_z hP h16 hb hy h, ite_self, ite_self]
    · rw [Bool.true_and, Bool.and_comm, decide_eq_decide.mpr (show ¬ y = x ↔ ¬ x = y from ⟨fun g q => g q.symm, fun g q => g q.symm⟩)]
  rw [e, nu_is hP x hx]
  by_cases q : x = b
  · rw [if_pos q, if_pos q, ← sumC_S, sumC_n (fun y hy => ?_)]
    · rfl
    · rw [b_and, dn_b (by omega) hb (by omega), decide_eq_true hy, Bool.true_and, lt_b hP (by omega) hx hy, Bool.eq_false_iff]
      intro g
      rw [Bool.and_eq_true, Bool.and_eq_true, decide_eq_true_eq] at g
      rw [q] at g
      exact g.2.1 (le_as hP (by omega) hb hy g.2.2 g.1)
  · rw [if_neg q, if_neg q, neg_sum0]
theorem mu_nu (hP : PO n A) (h16 : n ≤ 16) {a b : Nat} (ha : a < n) (hb : b < n) : mu n A a b = nu n A b a := by
  have e1 : sumN (fun x => sumN (fun y => if le A x y = true then mu n A a x * nu n A b y else 0) n) n = mu n A a b := by
    rw [← sumC_px (f := mu n A a) hb, sumC_N]
    refine sumN_c (fun x hx => ?_)
    rw [← sumC_N (c := fun y => le A x y) (f := fun y => mu n A a x * nu n A b y), sumC_mul, nu_sum hP h16 hb hx]
    by_cases q : x = b
    · rw [if_pos q, if_pos (decide_eq_true q), Int64.mul_one]
    · rw [if_neg q, if_neg (by rw [decide_eq_true_eq]; exact q), Int64.mul_zero]
  have e2 : sumN (fun x => sumN (fun y => if le A x y = true then mu n A a x * nu n A b y else 0) n) n = nu n A b a := by
    rw [sumN_sw, ← sumC_px (f := nu n A b) ha, sumC_N]
    refine sumN_c (fun y hy => ?_)
    rw [← sumC_N (c := fun x => le A x y) (f := fun x => mu n A a x * nu n A b y), sumC_c (c' := fun x => le A x y) (f' := fun x => nu n A b y * mu n A a x) (fun x _ => ⟨rfl, fun _ => Int64.mul_comm _ _⟩), sumC_mul, mu_sum hP h16 ha hy]
    by_cases q : y = a
    · rw [if_pos q, if_pos (decide_eq_true q), Int64.mul_one]
    · rw [if_neg q, if_neg (by rw [decide_eq_true_eq]; exact q), Int64.mul_zero]
  rw [← e1, e2]
/-! rows that are too long are none -/
theorem way_z {p : Nat → Nat → Bool} {a : Nat} (hp : ∀ y x, y < n → x < n → p y x = true → key n A y < key n A x) : ∀ k x, x < n → key n A x < k → wayM n p a k x = 0
  | 0, x, _, h => absurd h (Nat.not_lt_zero _)
  | k + 1, x, hx, h => by
    show sumC (fun y => p y x) (wayM n p a k) n = 0
    exact sumC_z (fun y hy q => way_z hp k y hy (by have := hp y x hy hx q; omega))
theorem ac_n {p : Nat → Nat → Bool} {a b : Nat} (hz : ∀ k, n ≤ k → wayM n p a k b = 0) : ∀ m, n ≤ m + 1 → acM n p a b m = acM n p a b (n - 1)
  | 0, h => by rw [show n - 1 = 0 by omega]
  | m + 1, h => by
    by_cases q : n = m + 2
    · rw [show n - 1 = m + 1 by omega]
    · rw [acM, hz (m + 1) (by omega), Int64.add_zero, ac_n hz m (by omega)]
theorem alt_n {p : Nat → Nat → Bool} {a b : Nat} (hz : ∀ k, n ≤ k → wayM n p a k b = 0) : ∀ m, n ≤ m → altM n p a b m = altM n p a b n
  | 0, h => by rw [show n = 0 by omega]
  | m + 1, h => by
    by_cases q : n = m + 1
    · rw [q]
    · rw [altM, hz m (by omega), show (if m % 2 = 0 then (0 : Int64) else -0) = 0 by split <;> rfl, Int64.add_zero, alt_n hz m (by omega)]
theorem lt_key (hP : PO n A) {y x : Nat} (hy : y < n) (hx : x < n) (h : bt (A y) x = true) : key n A y < key n A x := key_up hP hy hx h
theorem cv_lt {y x : Nat} (h : cv n A y x = true) : bt (A y) x = true := by rw [cv, Bool.and_eq_true] at h; exact h.1
end MU
theorem sum_ct {p : Nat → Bool} : ∀ {n : Nat}, sumN (fun t => if p t = true then (1 : Int64) else 0) n = lN (ct p n)
  | 0 => rfl
  | n + 1 => by
    rw [sumN, sum_ct (n := n), ct]
    by_cases q : p n = true
    · rw [if_pos q, if_pos q, lN_1]
    · rw [if_neg q, if_neg q, Int64.add_zero, Nat.add_zero]
theorem dsQ_all {n k t : Nat} {A : Nat → Int32} : dsQ n A (fun _ => true) k t ↔ (dsM n A t = true ∧ ct (fun i => t.testBit i) n = k) := by
  rw [dsM_t]
  exact ⟨fun h => ⟨fun a x ha hx h1 h2 => h.2.1 a x ha hx h1 rfl h2, h.2.2⟩, fun h => ⟨fun _ _ _ => rfl, fun a x ha hx h1 _ h2 => h.1 a x ha hx h1 h2, h.2⟩⟩
theorem dsC_k {n k : Nat} {A : Nat → Int32} (h16 : n ≤ 16) (hk : k ≤ n) : dsC n A (nI k) = lN (dC n A (fun _ => true) k) := by
  rw [dsC, dC, ← sum_ct]
  refine sumN_c (fun t _ => ?_)
  have hc := ct_le (fun i => t.testBit i) n
  have e : ((decide (nI k = -1) || decide (nI (ct (fun i => t.testBit i) n) = nI k)) && dsM n A t) = pB (dsQ n A (fun _ => true) k t) := by
    rw [Bool.eq_iff_iff, pB_t, dsQ_all, Bool.and_eq_true, Bool.or_eq_true, decide_eq_true_eq, decide_eq_true_eq, nI_eq (by omega) (by omega)]
    have : ¬ nI k = -1 := fun q => absurd (show (nI k : Int32) < 0 by rw [q]; decide) (nI_pos (by omega))
    exact ⟨fun g => ⟨g.2, g.1.resolve_left this⟩, fun g => ⟨Or.inr g.2, g.1⟩⟩
  rw [e]
theorem dsC_m {n : Nat} {A : Nat → Int32} : dsC n A (-1) = sumN (fun k => lN (dC n A (fun _ => true) k)) (n + 1) := by
  have e : ∀ k, lN (dC n A (fun _ => true) k) = sumN (fun t => if pB (dsQ n A (fun _ => true) k t) = true then (1 : Int64) else 0) (2 ^ n) := fun k => by rw [dC, sum_ct]
  rw [sumN_c (fun k _ => e k), ← sumN_sw, dsC]
  refine sumN_c (fun t _ => ?_)
  rw [decide_eq_true rfl, Bool.true_or, Bool.true_and]
  have hc := ct_le (fun i => t.testBit i) n
  have e2 : ∀ k, (if pB (dsQ n A (fun _ => true) k t) = true then (1 : Int64) else 0) = if decide (k = ct (fun i => t.testBit i) n) = true then (if dsM n A t = true then 1 else 0) else 0 := fun k => by
    by_cases q : k = ct (fun i => t.testBit i) n
    · rw [if_pos (decide_eq_true q)]
      by_cases g : dsM n A t = true
      · rw [if_pos g, if_pos (pB_t.mpr (dsQ_all.mpr ⟨g, q.symm⟩))]
      · rw [if_neg g, if_neg (fun h => g (dsQ_all.mp (pB_t.mp h)).1)]
    · rw [if_neg (fun h => q (dsQ_all.mp (pB_t.mp h)).2.symm), if_neg (by rw [decide_eq_true_eq]; exact q)]
  rw [sumN_c (fun k _ => e2 k), ← sumC_N (c := fun k => decide (k = ct (fun i => t.testBit i) n)) (f := fun _ => if dsM n A t = true then 1 else 0), sumC_px (f := fun _ => if dsM n A t = true then (1 : Int64) else 0) (show ct (fun i => t.testBit i) n < n + 1 by omega)]
