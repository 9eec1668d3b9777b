/-! SUMS OVER SUBSETS -/
def sumN (f : Nat → Int64) : Nat → Int64
  | 0 => 0
  | n + 1 => sumN f n + f n
theorem sumN_c {f g : Nat → Int64} : ∀ {n : Nat}, (∀ i, i < n → f i = g i) → sumN f n = sumN g n
  | 0, _ => rfl
  | n + 1, h => by rw [sumN, sumN, sumN_c (fun i hi => h i (by omega)), h n (by omega)]
theorem add4 (a b c d : Int64) : (a + b) + (c + d) = (a + c) + (b + d) := by
  rw [Int64.add_assoc, Int64.add_assoc, ← Int64.add_assoc b, Int64.add_comm b c, Int64.add_assoc]
theorem sumN_add {f g : Nat → Int64} : ∀ {n : Nat}, sumN (fun i => f i + g i) n = sumN f n + sumN g n
  | 0 => by rw [sumN, sumN, sumN, Int64.add_zero]
  | n + 1 => by rw [sumN, sumN, sumN, sumN_add, add4]
theorem sumN_z {f : Nat → Int64} : ∀ {n : Nat}, (∀ i, i < n → f i = 0) → sumN f n = 0
  | 0, _ => rfl
  | n + 1, h => by rw [sumN, sumN_z (fun i hi => h i (by omega)), h n (by omega), Int64.add_zero]
theorem sumN_neg {f : Nat → Int64} : ∀ {n : Nat}, sumN (fun i => -(f i)) n = -(sumN f n)
  | 0 => by rw [sumN, sumN]; decide
  | n + 1 => by rw [sumN, sumN, sumN_neg, Int64.neg_add, Int64.sub_eq_add_neg]
theorem sumN_sp {f : Nat → Int64} {a : Nat} : ∀ {b : Nat}, sumN f (a + b) = sumN f a + sumN (fun t => f (a + t)) b
  | 0 => by rw [sumN, Nat.add_zero, Int64.add_zero]
  | b + 1 => by rw [← Nat.add_assoc, sumN, sumN, sumN_sp, Int64.add_assoc]
theorem sumC_N {c : Nat → Bool} {f : Nat → Int64} : ∀ n, sumC c f n = sumN (fun i => if c i = true then f i else 0) n
  | 0 => rfl
  | n + 1 => by
    rw [sumC, sumN, ← sumC_N n]
    by_cases h : c n = true
    · rw [if_pos h, if_pos h]
    · rw [if_neg h, if_neg h, Int64.add_zero]
theorem sumC_add {c : Nat → Bool} {f g : Nat → Int64} : ∀ {n : Nat}, sumC c (fun i => f i + g i) n = sumC c f n + sumC c g n
  | 0 => by rw [sumC, sumC, sumC, Int64.add_zero]
  | n + 1 => by
    rw [sumC, sumC, sumC, sumC_add]
    by_cases h : c n = true
    · rw [if_pos h, if_pos h, if_pos h, add4]
    · rw [if_neg h, if_neg h, if_neg h]
theorem sumC_z {c : Nat → Bool} {f : Nat → Int64} : ∀ {n : Nat}, (∀ i, i < n → c i = true → f i = 0) → sumC c f n = 0
  | 0, _ => rfl
  | n + 1, h => by
    rw [sumC, sumC_z (fun i hi => h i (by omega))]
    by_cases e : c n = true
    · rw [if_pos e, h n (by omega) e, Int64.add_zero]
    · rw [if_neg e]
theorem sumC_pt {c : Nat → Bool} {x : Nat} {G : Int64} : ∀ {n : Nat}, x < n → sumC c (fun y => if x = y then G else 0) n = if c x = true then G else 0
  | 0, h => absurd h (Nat.not_lt_zero _)
  | n + 1, h => by
    rw [sumC]
    by_cases e : x = n
    · subst e
      rw [sumC_z (fun i hi _ => by rw [if_neg (by omega)]), if_pos rfl, Int64.zero_add]
    · rw [sumC_pt (n := n) (by omega), if_neg e, Int64.add_zero]
      by_cases h2 : c n = true
      · rw [if_pos h2]
      · rw [if_neg h2]
theorem sumC_neg {c : Nat → Bool} {f : Nat → Int64} : ∀ {n : Nat}, sumC c (fun i => -(f i)) n = -(sumC c f n)
  | 0 => by rw [sumC, sumC]; decide
  | n + 1 => by
    rw [sumC, sumC, sumC_neg]
    by_cases h : c n = true
    · rw [if_pos h, if_pos h, Int64.neg_add, Int64.sub_eq_add_neg]
    · rw [if_neg h, if_neg h]
theorem sum_ex {n k x : Nat} {S : Nat → Bool} {j : Nat → Nat → Nat} {P : Nat → Prop} [DecidablePred P] {J : Nat → Nat} {g : Nat → Int64} : ∀ {N : Nat}, (∀ t, t < N → P t → J t < n ∧ S (J t) = true) → sumN (fun t => if P t then (if j (J t) k = x then g t else 0) else 0) N = sumC (fun y => S y && decide (j y k = x)) (fun y => sumN (fun t => if P t then (if J t = y then g t else 0) else 0) N) n
  | 0, _ => by rw [sumN]; exact (sumC_z (fun i _ _ => rfl)).symm
  | N + 1, h => by
    rw [sumN, sum_ex (fun t ht => h t (by omega))]
    show _ = sumC _ (fun y => sumN (fun t => if P t then (if J t = y then g t else 0) else 0) N + (if P N then (if J N = y then g N else 0) else 0)) n
    rw [sumC_add]
    congr 1
    by_cases hp : P N
    · obtain ⟨h1, h2⟩ := h N (by omega) hp
      rw [if_pos hp]
      have : (fun y => if P N then (if J N = y then g N else 0) else 0) = fun y => if J N = y then g N else 0 := by
        funext y; rw [if_pos hp]
      rw [this, sumC_pt h1, h2, Bool.true_and]
      by_cases e : j (J N) k = x
      · rw [if_pos e, if_pos (decide_eq_true e)]
      · rw [if_neg e, if_neg (by rw [decide_eq_false e]; decide)]
    · rw [if_neg hp]
      exact (sumC_z (fun i _ _ => if_neg hp)).symm
/-! bits of numbers -/
theorem tb_hi {k t : Nat} (ht : t < 2 ^ k) : (2 ^ k + t).testBit k = true := by
  rw [Nat.testBit_two_pow_add_eq, Nat.testBit_lt_two_pow ht]; rfl
theorem tb_lo {k t i : Nat} (hi : i < k) : (2 ^ k + t).testBit i = t.testBit i := Nat.testBit_two_pow_add_gt hi t
theorem tb_up {k t i : Nat} (ht : t < 2 ^ k) (hi : k < i) : (2 ^ k + t).testBit i = false :=
  Nat.testBit_lt_two_pow (Nat.lt_of_lt_of_le (show 2 ^ k + t < 2 ^ (k + 1) by rw [Nat.pow_succ]; omega) (Nat.pow_le_pow_right (by decide) hi))
theorem sub_iff {t M : Nat} : t &&& M = t ↔ ∀ i, t.testBit i = true → M.testBit i = true := by
  constructor
  · intro h i hi
    rw [← h, Nat.testBit_and, Bool.and_eq_true] at hi
    exact hi.2
  · intro h
    apply Nat.eq_of_testBit_eq
    intro i
    rw [Nat.testBit_and]
    cases e : t.testBit i
    · rfl
    · rw [h i e]; rfl
theorem sub_hi {k t M : Nat} (ht : t < 2 ^ k) : (2 ^ k + t) &&& M = 2 ^ k + t ↔ M.testBit k = true ∧ t &&& M = t := by
  rw [sub_iff, sub_iff]
  constructor
  · intro h
    refine ⟨h k (tb_hi ht), fun i hi => ?_⟩
    have hik : i < k := Nat.not_le.mp fun q => by
      rw [Nat.testBit_lt_two_pow (Nat.lt_of_lt_of_le ht (Nat.pow_le_pow_right (by decide) q))] at hi
      cases hi
    exact h i (by rw [tb_lo hik]; exact hi)
  · rintro ⟨h1, h2⟩ i hi
    rcases Nat.lt_trichotomy i k with q | q | q
    · rw [tb_lo q] at hi; exact h2 i hi
    · rw [q]; exact h1
    · rw [tb_up ht q] at hi; cases hi
def jfN (j : Nat → Nat → Nat) (a t : Nat) : Nat → Nat
  | 0 => a
  | k + 1 => if t.testBit k = true then j (jfN j a t k) k else jfN j a t k
def sgF (t : Nat) : Nat → Int64
  | 0 => 1
  | k + 1 => if t.testBit k = true then -(sgF t k) else sgF t k
def ccN (n : Nat) (S : Nat → Bool) (M : Nat) (j : Nat → Nat → Nat) (a : Nat) : Nat → Nat → Int64
  | 0 => fun x => if x = a then 1 else 0
  | k + 1 => fun x => if M.testBit k = true then ccN n S M j a k x - sumC (fun y => S y && decide (j y k = x)) (ccN n S M j a k) n else ccN n S M j a k x
theorem jfN_c {j : Nat → Nat → Nat} {a t t' : Nat} : ∀ {k : Nat}, (∀ i, i < k → t.testBit i = t'.testBit i) → jfN j a t k = jfN j a t' k
  | 0, _ => rfl
  | k + 1, h => by rw [jfN, jfN, jfN_c (fun i hi => h i (by omega)), h k (by omega)]
theorem sgF_c {t t' : Nat} : ∀ {k : Nat}, (∀ i, i < k → t.testBit i = t'.testBit i) → sgF t k = sgF t' k
  | 0, _ => rfl
  | k + 1, h => by rw [sgF, sgF, sgF_c (fun i hi => h i (by omega)), h k (by omega)]
theorem jfN_in {n a M : Nat} {S : Nat → Bool} {j : Nat → Nat → Nat} (ha : a < n) (hS : S a = true) (hj : ∀ y k, y < n → S y = true → M.testBit k = true → j y k < n ∧ S (j y k) = true) {t : Nat} (ht : t &&& M = t) : ∀ k, jfN j a t k < n ∧ S (jfN j a t k) = true
  | 0 => ⟨ha, hS⟩
  | k + 1 => by
    rw [jfN]
    obtain ⟨h1, h2⟩ := jfN_in ha hS hj ht k
    by_cases e : t.testBit k = true
    · rw [if_pos e]; exact hj _ k h1 h2 (sub_iff.mp ht k e)
    · rw [if_neg e]; exact ⟨h1, h2⟩
theorem cross {n a M : Nat} {S : Nat → Bool} {j : Nat → Nat → Nat} (ha : a < n) (hS : S a = true) (hj : ∀ y k, y < n → S y = true → M.testBit k = true → j y k < n ∧ S (j y k) = true) : ∀ k x, sumN (fun t => if t &&& M = t then (if jfN j a t k = x then sgF t k else 0) else 0) (2 ^ k) = ccN n S M j a k x
  | 0, x => by
    show sumN _ 1 = if x = a then (1 : Int64) else 0
    rw [sumN, sumN, Int64.zero_add, if_pos (Nat.zero_and M), jfN, sgF]
    by_cases e : x = a
    · rw [if_pos e, if_pos e.symm]
    · rw [if_neg e, if_neg (Ne.symm e)]
  | k + 1, x => by
    rw [Nat.pow_succ, Nat.mul_two, sumN_sp]
    have h1 : sumN (fun t => if t &&& M = t then (if jfN j a t (k + 1) = x then sgF t (k + 1) else 0) else 0) (2 ^ k) = ccN n S M j a k x := by
      rw [← cross ha hS hj k x]
      refine sumN_c (fun t ht => ?_)
      have hb : t.testBit k = false := Nat.testBit_lt_two_pow ht
      have e1 : jfN j a t (k + 1) = jfN j a t k := by rw [jfN, hb]; rfl
      have e2 : sgF t (k + 1) = sgF t k := by rw [sgF, hb]; rfl
      rw [e1, e2]
    rw [h1]
    show _ = if M.testBit k = true then ccN n S M j a k x - sumC (fun y => S y && decide (j y k = x)) (ccN n S M j a k) n else ccN n S M j a k x
    by_cases hM : M.testBit k = true
    · rw [if_pos hM, Int64.sub_eq_add_neg]
      congr 1
      have h2 : sumN (fun t => if (2 ^ k + t) &&& M = 2 ^ k + t then (if jfN j a (2 ^ k + t) (k + 1) = x then sgF (2 ^ k + t) (k + 1) else 0) else 0) (2 ^ k) = sumN (fun t => -(if t &&& M = t then (if j (jfN j a t k) k = x then sgF t k else 0) else 0)) (2 ^ k) := by
        refine sumN_c (fun t ht => ?_)
        by_cases hs : t &&& M = t
        · rw [if_pos ((sub_hi ht).mpr ⟨hM, hs⟩), if_pos hs, jfN, if_pos (tb_hi ht), sgF, if_pos (tb_hi ht), jfN_c (t' := t) (fun i hi => tb_lo hi), sgF_c (t' := t) (fun i hi => tb_lo hi)]
          by_cases e : j (jfN j a t k) k = x
          · rw [if_pos e, if_pos e]
          · rw [if_neg e, if_neg e]; decide
        · rw [if_neg (fun q => hs ((sub_hi ht).mp q).2), if_neg hs]; decide
      rw [h2, sumN_neg, sum_ex (n := n) (S := S) (fun t _ ht => jfN_in ha hS hj ht k)]
      congr 1
      exact sumC_c (fun y _ => ⟨rfl, fun _ => cross ha hS hj k y⟩)
    · rw [if_neg hM, sumN_z, Int64.add_zero]
      intro t ht
      rw [if_neg (fun q => hM ((sub_hi ht).mp q).1)]
/-- the next smaller subset -/
theorem sub_next : ∀ (s M t : Nat), s &&& M = s → s ≠ 0 → t &&& M = t → t < s → t ≤ (s - 1) &&& M := by
  intro s
  induction s using Nat.strongRecOn with
  | _ s ih =>
    intro M t hs h0 ht hlt
    have hs2 : s / 2 &&& M / 2 = s / 2 := by rw [← Nat.and_div_two, hs]
    have ht2 : t / 2 &&& M / 2 = t / 2 := by rw [← Nat.and_div_two, ht]
    have hd : ((s - 1) &&& M) / 2 = (s - 1) / 2 &&& M / 2 := Nat.and_div_two ..
    have htm : t % 2 = 1 → M % 2 = 1 := fun q => by
      have := sub_iff.mp ht 0 (by rw [Nat.testBit_zero]; exact decide_eq_true q)
      rw [Nat.testBit_zero] at this
      exact of_decide_eq_true this
    by_cases g : s % 2 = 1
    · rw [show (s - 1) / 2 = s / 2 by omega, hs2] at hd
      omega
    · rw [show (s - 1) / 2 = s / 2 - 1 by omega] at hd
      have h1 := ih (s / 2) (by omega) (M / 2) (t / 2) hs2 (by omega) ht2 (by omega)
      have hm : M % 2 = 1 → ((s - 1) &&& M) % 2 = 1 := fun q => by
        have hb : ((s - 1) &&& M).testBit 0 = true := by
          rw [Nat.testBit_and, Nat.testBit_zero, Nat.testBit_zero, decide_eq_true q, decide_eq_true (show (s - 1) % 2 = 1 by omega)]; rfl
        rw [Nat.testBit_zero] at hb
        exact of_decide_eq_true hb
      by_cases q : t % 2 = 1
      · have := hm (htm q)
        omega
      · omega
def sumT (M : Nat) (f : Nat → Int64) (s : Nat) : Int64 := sumN (fun t => if t &&& M = t then f t else 0) (s + 1)
theorem sumT_0 {M : Nat} {f : Nat → Int64} : sumT M f 0 = f 0 := by
  rw [sumT, sumN, sumN, if_pos (Nat.zero_and M), Int64.zero_add]
theorem sumT_s {M s : Nat} {f : Nat → Int64} (hs : s &&& M = s) (h0 : s ≠ 0) : sumT M f s = sumT M f ((s - 1) &&& M) + f s := by
  have hle : (s - 1) &&& M ≤ s - 1 := Nat.and_le_left
  rw [sumT, sumN, if_pos hs]
  congr 1
  obtain ⟨d, hd⟩ : ∃ d, s = ((s - 1) &&& M) + 1 + d := ⟨s - (((s - 1) &&& M) + 1), by omega⟩
  conv => lhs; rw [hd]
  rw [sumN_sp, sumN_z (f := fun t => if (((s - 1) &&& M) + 1 + t) &&& M = ((s - 1) &&& M) + 1 + t then f (((s - 1) &&& M) + 1 + t) else 0), Int64.add_zero, sumT]
  intro t ht
  rw [if_neg]
  intro q
  have := sub_next s M _ hs h0 q (by omega)
  omega
theorem sumT_all {M s k : Nat} {f : Nat → Int64} (hs : M < 2 ^ k) : sumT M f M = sumN (fun t => if t &&& M = t then f t else 0) (2 ^ k) := by
  obtain ⟨d, hd⟩ : ∃ d, 2 ^ k = M + 1 + d := ⟨2 ^ k - (M + 1), by omega⟩
  rw [hd, sumN_sp, sumT, sumN_z (f := fun t => if (M + 1 + t) &&& M = M + 1 + t then f (M + 1 + t) else 0), Int64.add_zero]
  intro t ht
  rw [if_neg]
  intro q
  have : (M + 1 + t) &&& M ≤ M := Nat.and_le_right
  omega
theorem sg_ct (t : Nat) : ∀ k, sgF t k = if ct (fun i => t.testBit i) k % 2 = 0 then 1 else -1
  | 0 => rfl
  | k + 1 => by
    rw [sgF, ct, sg_ct t k]
    by_cases h : t.testBit k = true
    · rw [if_pos h, if_pos h]
      by_cases e : ct (fun i => t.testBit i) k % 2 = 0
      · rw [if_pos e, if_neg (by omega)]
      · rw [if_neg e, if_pos (by omega)]; decide
    · rw [if_neg h, if_neg h, Nat.add_zero]
/-! the least, the greatest of a set -/
def leastM (n : Nat) (A : Nat → Int32) (s : Int32) : Int32 := scan (fun a => bt s a && decide (s &&& (upS A a ^^^ (-1)) = 0)) nI (-2) n 0
def greatM (n : Nat) (A : Nat → Int32) (s : Int32) : Int32 := scan (fun a => bt s a && decide (s &&& (dnS n A a ^^^ (-1)) = 0)) nI (-2) n 0
theorem MO.least {L : amL} {n : Nat} {A : Nat → Int32} (h : MO L n A) (s : Int32) : m_least L s = leastM n A s := by
  have h16 := h.2.1
  rw [m_least, h.N, leastM]
  exact scan_cong _ _ (fun a _ ha => ⟨by rw [has_b (by omega), h.up (by omega)], rfl⟩)
theorem MO.great {L : amL} {n : Nat} {A : Nat → Int32} (h : MO L n A) (s : Int32) : m_great L s = greatM n A s := by
  have h16 := h.2.1
  rw [m_great, h.N, greatM]
  exact scan_cong _ _ (fun a _ ha => ⟨by rw [has_b (by omega), h.dn (by omega)], rfl⟩)
theorem OI.least {I : amI} {o n : Nat} {A : Nat → Int32} (h : OI I o n A) (s : Int32) : q_least I o s = leastM n A s := by
  rw [q_least, sz_eq h.1 h.2.2.1, leastM]
  exact scan_cong _ _ (fun a _ ha => ⟨by rw [p_least, h.from (by omega)], rfl⟩)
theorem OI.great {I : amI} {o n : Nat} {A : Nat → Int32} (h : OI I o n A) (s : Int32) : q_greatest I o s = greatM n A s := by
  rw [q_greatest, sz_eq h.1 h.2.2.1, greatM]
  exact scan_cong _ _ (fun a _ ha => ⟨by rw [p_greatest, h.upTo (by omega)], rfl⟩)
theorem least_or (n : Nat) (A : Nat → Int32) (s : Int32) : leastM n A s = -2 ∧ (∀ j, j < n → (bt s j && decide (s &&& (upS A j ^^^ (-1)) = 0)) = false) ∨ ∃ w, w < n ∧ bt s w = true ∧ s &&& (upS A w ^^^ (-1)) = 0 ∧ leastM n A s = nI w := by
  rcases scan_or (p := fun a => bt s a && decide (s &&& (upS A a ^^^ (-1)) = 0)) (r := nI) (d := (-2 : Int32)) n 0 with ⟨h1, h2⟩ | ⟨j, _, h2, h3, h4, _⟩
  · exact Or.inl ⟨h1, fun j hj => h2 j (Nat.zero_le _) (by omega)⟩
  · rw [Bool.and_eq_true, decide_eq_true_eq] at h3
    exact Or.inr ⟨j, by omega, h3.1, h3.2, h4⟩
theorem great_or (n : Nat) (A : Nat → Int32) (s : Int32) : greatM n A s = -2 ∨ ∃ w, w < n ∧ bt s w = true ∧ greatM n A s = nI w := by
  rcases scan_or (p := fun a => bt s a && decide (s &&& (dnS n A a ^^^ (-1)) = 0)) (r := nI) (d := (-2 : Int32)) n 0 with ⟨h1, _⟩ | ⟨j, _, h2, h3, h4, _⟩
  · exact Or.inl h1
  · rw [Bool.and_eq_true, decide_eq_true_eq] at h3
    exact Or.inr ⟨j, by omega, h3.1, h4⟩
theorem nI_ne2 {w : Nat} (hw : w < 2 ^ 31) : nI w ≠ -2 := fun e => by
  have := congrArg Int32.toInt e
  rw [nI_toInt hw] at this
  have h2 : ((-2 : Int32)).toInt = -2 := by decide
  rw [h2] at this
  omega
theorem neg_2 {x : Int32} (h : x = -2 ∨ ∃ w, w < 2 ^ 31 ∧ x = nI w) : (¬ 0 ≤ x) ↔ x = -2 := by
  rcases h with rfl | ⟨w, hw, rfl⟩
  · exact ⟨fun _ => rfl, fun _ => by decide⟩
  · exact ⟨fun q => absurd (nI_pos' hw) q, fun q => absurd q (nI_ne2 hw)⟩
/-! joins within a set -/
def jnM (n : Nat) (A : Nat → Int32) (s : Int32) (x y : Nat) : Int32 := leastM n A ((s &&& upS A x) &&& upS A y)
def arM1 (n : Nat) (A : Nat → Int32) (s : Int32) (x : Nat) : Bool := scan (fun y => bt s x && (bt s y && decide (jnM n A s x y = -2))) (fun _ => true) false x 0
def arM (n : Nat) (A : Nat → Int32) (s : Int32) : Bool := scan (arM1 n A s) (fun _ => false) true n 0
theorem MO.arJ {L : amL} {n : Nat} {A : Nat → Int32} (h : MO L n A) (s : Int32) : m_arJ L s = arM n A s := by
  have h16 := h.2.1
  rw [m_arJ, h.N, arM]
  refine scan_cong _ _ (fun a _ ha => ⟨?_, rfl⟩)
  rw [m_arJ1, arM1]
  refine scan_cong _ _ (fun b _ hb => ⟨?_, rfl⟩)
  rw [p_arJ, has_b (by omega), has_b (by omega), h.least, h.up (by omega), h.up (by omega), jnM]
theorem OI.hasJ {I : amI} {o n : Nat} {A : Nat → Int32} (h : OI I o n A) (s : Int32) : q_hasJ I o s = arM n A s := by
  have h16 := h.2.2.1
  rw [q_hasJ, sz_eq h.1 h.2.2.1, arM]
  refine scan_cong _ _ (fun a _ ha => ⟨?_, rfl⟩)
  rw [q_hasJ1, arM1]
  refine scan_cong _ _ (fun b _ hb => ⟨?_, rfl⟩)
  rw [p_hasJ, h.least, h.from (by omega), h.from (by omega), jnM]
  congr 2
  apply decide_eq_decide.mpr
  apply neg_2
  rcases least_or n A ((s &&& upS A a) &&& upS A b) with ⟨q, _⟩ | ⟨w, hw, _, _, q⟩
  · exact Or.inl q
  · exact Or.inr ⟨w, by omega, q⟩
theorem scan_tf {p : Nat → Bool} {n : Nat} : scan p (fun _ => false) true n 0 = true ↔ ∀ i, i < n → p i = false := by
  rcases scan_or (p := p) (r := fun _ => false) (d := true) n 0 with ⟨h1, h2⟩ | ⟨j, _, h2, h3, h4, _⟩
  · exact ⟨fun _ i hi => h2 i (Nat.zero_le _) (by omega), fun _ => h1⟩
  · refine ⟨fun q => ?_, fun q => ?_⟩
    · rw [h4] at q; cases q
    · rw [q j (by omega)] at h3; cases h3
theorem scan_ft {p : Nat → Bool} {n : Nat} : scan p (fun _ => true) false n 0 = false ↔ ∀ i, i < n → p i = false := by
  rcases scan_or (p := p) (r := fun _ => true) (d := false) n 0 with ⟨h1, h2⟩ | ⟨j, _, h2, h3, h4, _⟩
  · exact ⟨fun _ i hi => h2 i (Nat.zero_le _) (by omega), fun _ => h1⟩
  · refine ⟨fun q => ?_, fun q => ?_⟩
    · rw [h4] at q; cases q
    · rw [q j (by omega)] at h3; cases h3
theorem jn_in {n : Nat} {A : Nat → Int32} (hP : PO n A) (h16 : n ≤ 16) {s : Int32} (hs : ∀ i, i < 32 → bt s i = true → i < n) (ha : arM n A s = true) {x y : Nat} (hx : x < n) (hy : y < n) (hbx : bt s x = true) (hby : bt s y = true) : ∃ w, w < n ∧ bt s w = true ∧ jnM n A s x y = nI w := by
  rcases least_or n A ((s &&& upS A x) &&& upS A y) with ⟨q, hno⟩ | ⟨w, hw, hb, _, q⟩
  · exfalso
    rcases Nat.lt_trichotomy x y with h | h | h
    · have := scan_ft.mp (scan_tf.mp ha y hy) x h
      rw [hbx, hby, decide_eq_true] at this
      · cases this
      · rw [jnM, ← q]
        congr 1
        exact b_ext fun i _ => by
          rw [b_and, b_and, b_and, b_and]
          cases bt s i <;> cases bt (upS A x) i <;> cases bt (upS A y) i <;> rfl
    · subst h
      have := hno x hx
      rw [b_and, b_and, hbx, up_b, le_rf (by omega), decide_eq_true] at this
      · cases this
      · rw [b_eq0]
        intro i hi
        rw [b_and, b_and, b_and, b_not _ hi]
        cases bt s i <;> cases bt (upS A x) i <;> rfl
    · have := scan_ft.mp (scan_tf.mp ha x hx) y h
      rw [hbx, hby, decide_eq_true (show jnM n A s x y = -2 from q)] at this
      cases this
  · rw [b_and, b_and, Bool.and_eq_true, Bool.and_eq_true] at hb
    exact ⟨w, hw, hb.1.1, q⟩
