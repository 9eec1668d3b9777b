/-! LINEAR EXTENSIONS: parts beside one another, parts above one another -/
theorem sumC_mul {p : Nat → Bool} {f : Nat → Int64} {c : Int64} : ∀ {n : Nat}, sumC p (fun a => c * f a) n = c * sumC p f n
  | 0 => by rw [sumC, sumC, Int64.mul_zero]
  | n + 1 => by
    rw [sumC, sumC, sumC_mul]
    by_cases h : p n = true
    · rw [if_pos h, if_pos h, Int64.mul_add]
    · rw [if_neg h, if_neg h]
theorem sumC_or {p q r : Nat → Bool} {f : Nat → Int64} : ∀ {n : Nat}, (∀ i, i < n → r i = (p i || q i)) → (∀ i, i < n → p i = true → q i = false) → sumC r f n = sumC p f n + sumC q f n
  | 0, _, _ => by rw [sumC, sumC, sumC]; rfl
  | n + 1, h1, h2 => by
    rw [sumC, sumC, sumC, sumC_or (fun i hi => h1 i (by omega)) (fun i hi => h2 i (by omega)), h1 n (by omega)]
    have := h2 n (by omega)
    cases e1 : p n <;> cases e2 : q n
    · simp
    · simp [Int64.add_assoc]
    · simp [Int64.add_assoc, Int64.add_comm]
    · rw [e1, e2] at this; exact absurd (this rfl) (by decide)
theorem sumC_n {p : Nat → Bool} {f : Nat → Int64} : ∀ {n : Nat}, (∀ i, i < n → p i = false) → sumC p f n = 0
  | 0, _ => rfl
  | n + 1, h => by rw [sumC, sumC_n (fun i hi => h i (by omega)), if_neg (by rw [h n (by omega)]; decide)]
theorem mxB_t {n a : Nat} {A : Nat → Int32} {S : Nat → Bool} : mxB n A S a = true ↔ S a = true ∧ ∀ b, b < n → S b = true → bt (A a) b = false := by
  rw [mxB, Bool.and_eq_true, Bool.not_eq_true', Bool.eq_false_iff, ne_eq, orN_t]
  refine and_congr Iff.rfl ⟨fun h b hb hs => ?_, fun h => ?_⟩
  · rw [Bool.eq_false_iff]
    intro q
    exact h ⟨b, hb, by rw [hs, q]; rfl⟩
  · rintro ⟨b, hb, q⟩
    rw [Bool.and_eq_true] at q
    rw [h b hb q.1] at q
    exact absurd q.2 (by decide)
theorem rm_ct {n a k : Nat} {S : Nat → Bool} (ha : a < n) (hS : S a = true) (h : ct S n = k + 1) : ct (fun x => S x && !decide (x = a)) n = k := by
  have := ct_rm (f := S) ha hS
  omega
theorem ext_par {n : Nat} {A : Nat → Int32} : ∀ (k : Nat) (P Q S : Nat → Bool), ct P n + ct Q n = k → (∀ i, i < n → S i = (P i || Q i)) → (∀ i, i < n → P i = true → Q i = false) → (∀ x y, x < n → y < n → P x = true → Q y = true → bt (A x) y = false ∧ bt (A y) x = false) → eF n A k S = lN (chN k (ct P n)) * eF n A (ct P n) P * eF n A (ct Q n) Q
  | 0, P, Q, S, hk, _, _, _ => by
    rw [show ct P n = 0 by omega, show ct Q n = 0 by omega]
    show (1 : Int64) = lN (chN 0 0) * 1 * 1
    rw [Int64.mul_one, Int64.mul_one]; rfl
  | k + 1, P, Q, S, hk, hS, hd, hc => by
    have hmx : ∀ i, i < n → mxB n A S i = (mxB n A P i || mxB n A Q i) := fun i hi => by
      rw [Bool.eq_iff_iff, Bool.or_eq_true, mxB_t, mxB_t, mxB_t, hS i hi, Bool.or_eq_true]
      constructor
      · rintro ⟨h1 | h1, h2⟩
        · exact Or.inl ⟨h1, fun b hb q => h2 b hb (by rw [hS b hb, q]; rfl)⟩
        · exact Or.inr ⟨h1, fun b hb q => h2 b hb (by rw [hS b hb, q, Bool.or_true])⟩
      · rintro (⟨h1, h2⟩ | ⟨h1, h2⟩)
        · refine ⟨Or.inl h1, fun b hb q => ?_⟩
          rw [hS b hb, Bool.or_eq_true] at q
          rcases q with q | q
          · exact h2 b hb q
          · exact (hc i b hi hb h1 q).1
        · refine ⟨Or.inr h1, fun b hb q => ?_⟩
          rw [hS b hb, Bool.or_eq_true] at q
          rcases q with q | q
          · exact (hc b i hb hi q h1).2
          · exact h2 b hb q
    have hdm : ∀ i, i < n → mxB n A P i = true → mxB n A Q i = false := fun i hi h => by
      rw [Bool.eq_false_iff]
      intro q
      have := hd i hi (mxB_t.mp h).1
      rw [(mxB_t.mp q).1] at this; cases this
    rw [eF, sumC_or hmx hdm]
    have first : sumC (mxB n A P) (fun a => eF n A k (fun x => S x && !decide (x = a))) n = lN (if 1 ≤ ct P n then chN k (ct P n - 1) else 0) * eF n A (ct P n) P * eF n A (ct Q n) Q := by
      by_cases h0 : ct P n = 0
      · rw [sumC_n (fun i hi => by rw [mxB, ct_0.mp h0 i hi]; rfl), if_neg (by omega)]
        show (0 : Int64) = lN 0 * _ * _
        rw [show lN 0 = 0 from rfl, Int64.zero_mul, Int64.zero_mul]
      · obtain ⟨p, hp⟩ : ∃ p, ct P n = p + 1 := ⟨ct P n - 1, by omega⟩
        rw [if_pos (by omega), hp, Nat.add_sub_cancel]
        rw [sumC_c (c' := mxB n A P) (f' := fun a => (lN (chN k p) * eF n A (ct Q n) Q) * eF n A p (fun x => P x && !decide (x = a))) (fun a ha => ⟨rfl, fun hm => ?_⟩)]
        · rw [sumC_mul]
          show _ = lN (chN k p) * sumC (mxB n A P) (fun a => eF n A p (fun x => P x && !decide (x = a))) n * eF n A (ct Q n) Q
          rw [Int64.mul_assoc, Int64.mul_assoc, Int64.mul_comm (eF n A (ct Q n) Q)]
        · have hPa := (mxB_t.mp hm).1
          have hc1 := rm_ct ha hPa hp
          have := ext_par k (fun x => P x && !decide (x = a)) Q (fun x => S x && !decide (x = a)) (by rw [hc1]; omega) (fun i hi => by
            rw [hS i hi]
            by_cases e : i = a
            · rw [decide_eq_true e, e, hd a ha hPa]; simp
            · rw [decide_eq_false e]; simp) (fun i hi q => hd i hi (by rw [Bool.and_eq_true] at q; exact q.1)) (fun x y hx hy q1 q2 => hc x y hx hy (by rw [Bool.and_eq_true] at q1; exact q1.1) q2)
          rw [this, hc1, Int64.mul_assoc, Int64.mul_assoc, Int64.mul_comm (eF n A p _)]
    have second : sumC (mxB n A Q) (fun a => eF n A k (fun x => S x && !decide (x = a))) n = lN (chN k (ct P n)) * eF n A (ct P n) P * eF n A (ct Q n) Q := by
      by_cases h0 : ct Q n = 0
      · rw [sumC_n (fun i hi => by rw [mxB, ct_0.mp h0 i hi]; rfl), chN_0 k (ct P n) (by omega)]
        show (0 : Int64) = lN 0 * _ * _
        rw [show lN 0 = 0 from rfl, Int64.zero_mul, Int64.zero_mul]
      · obtain ⟨p, hp⟩ : ∃ p, ct Q n = p + 1 := ⟨ct Q n - 1, by omega⟩
        rw [hp]
        rw [sumC_c (c' := mxB n A Q) (f' := fun a => (lN (chN k (ct P n)) * eF n A (ct P n) P) * eF n A p (fun x => Q x && !decide (x = a))) (fun a ha => ⟨rfl, fun hm => ?_⟩)]
        · rw [sumC_mul]; rfl
        · have hQa := (mxB_t.mp hm).1
          have hc1 := rm_ct ha hQa hp
          have := ext_par k P (fun x => Q x && !decide (x = a)) (fun x => S x && !decide (x = a)) (by rw [hc1]; omega) (fun i hi => by
            rw [hS i hi]
            by_cases e : i = a
            · have : P i = false := by
                rw [Bool.eq_false_iff]
                intro q
                have h2 := hd i hi q
                rw [e, hQa] at h2; cases h2
              rw [decide_eq_true e, this]; simp
            · rw [decide_eq_false e]; simp) (fun i hi q => by rw [hd i hi q]; rfl) (fun x y hx hy q1 q2 => hc x y hx hy q1 (by rw [Bool.and_eq_true] at q2; exact q2.1))
          rw [this, hc1]
    rw [first, second, chN, ← lN_add, Int64.add_mul, Int64.add_mul, Int64.add_comm]
theorem ext_ser {n : Nat} {A : Nat → Int32} (hP : PO n A) : ∀ (k : Nat) (P Q S : Nat → Bool), ct P n + ct Q n = k → (∀ i, i < n → S i = (P i || Q i)) → (∀ i, i < n → P i = true → Q i = false) → (∀ y, y < n → Q y = true → (∀ x, x < n → P x = true → bt (A x) y = true) ∨ ∀ x, x < n → P x = true → bt (A y) x = true) → eF n A k S = eF n A (ct P n) P * eF n A (ct Q n) Q
  | 0, P, Q, S, hk, _, _, _ => by
    rw [show ct P n = 0 by omega, show ct Q n = 0 by omega]
    show (1 : Int64) = 1 * 1
    rw [Int64.mul_one]
  | k + 1, P, Q, S, hk, hS, hd, hc => by
    by_cases h0 : ct P n = 0
    · have hz := ct_0.mp h0
      rw [h0, show ct Q n = k + 1 by omega]
      show _ = 1 * eF n A (k + 1) Q
      rw [Int64.one_mul]
      exact eF_c (k + 1) (fun i hi => by rw [hS i hi, hz i hi, Bool.false_or])
    obtain ⟨p, hp⟩ : ∃ p, ct P n = p + 1 := ⟨ct P n - 1, by omega⟩
    obtain ⟨x0, hx0, hPx0, _⟩ := ct_sur (f := P) (i := 0) (n := n) (by omega)
    have asym : ∀ x y, x < n → y < n → bt (A x) y = true → bt (A y) x = true → False := fun x y hx hy h1 h2 => by
      have := hP.2.2 x y x hx hy hx h1 h2
      rw [hP.2.1 x hx] at this; cases this
    rw [eF]
    by_cases hup : ∃ y, y < n ∧ Q y = true ∧ ∀ x, x < n → P x = true → bt (A x) y = true
    · obtain ⟨y0, hy0, hQ0, hy⟩ := hup
      have hq1 : 1 ≤ ct Q n := by
        rcases Nat.eq_zero_or_pos (ct Q n) with h | h
        · rw [ct_0.mp h y0 hy0] at hQ0; cases hQ0
        · exact h
      obtain ⟨q, hq⟩ : ∃ q, ct Q n = q + 1 := ⟨ct Q n - 1, by omega⟩
      have hmx : ∀ i, i < n → mxB n A S i = mxB n A Q i := fun i hi => by
        rw [Bool.eq_iff_iff, mxB_t, mxB_t, hS i hi, Bool.or_eq_true]
        constructor
        · rintro ⟨h1 | h1, h2⟩
          · have h3 := h2 y0 hy0 (by rw [hS y0 hy0, hQ0, Bool.or_true])
            rw [hy i hi h1] at h3; cases h3
          · exact ⟨h1, fun b hb w => h2 b hb (by rw [hS b hb, w, Bool.or_true])⟩
        · rintro ⟨h1, h2⟩
          refine ⟨Or.inr h1, fun b hb w => ?_⟩
          rw [hS b hb, Bool.or_eq_true] at w
          rcases w with w | w
          · rw [Bool.eq_false_iff]
            intro g
            have := hP.2.2 i b y0 hi hb hy0 g (hy b hb w)
            rw [h2 y0 hy0 hQ0] at this; cases this
          · exact h2 b hb w
      rw [hq]
      rw [sumC_c (c' := mxB n A Q) (f' := fun a => eF n A (ct P n) P * eF n A q (fun x => Q x && !decide (x = a))) (fun a ha => ⟨hmx a ha, fun hm => ?_⟩)]
      · rw [sumC_mul]; rfl
      · rw [hmx a ha] at hm
        have hQa := (mxB_t.mp hm).1
        have hc1 := rm_ct ha hQa hq
        have := ext_ser hP k P (fun x => Q x && !decide (x = a)) (fun x => S x && !decide (x = a)) (by rw [hc1]; omega) (fun i hi => by
          rw [hS i hi]
          by_cases e : i = a
          · have : P i = false := by
              rw [Bool.eq_false_iff]
              intro w
              have h2 := hd i hi w
              rw [e, hQa] at h2; cases h2
            rw [decide_eq_true e, this]; simp
          · rw [decide_eq_false e]; simp) (fun i hi w => by rw [hd i hi w]; rfl) (fun y hy2 w => hc y hy2 (by rw [Bool.and_eq_true] at w; exact w.1))
        rw [this, hc1]
    · have hall : ∀ y, y < n → Q y = true → ∀ x, x < n → P x = true → bt (A y) x = true := fun y hy2 hQy => by
        rcases hc y hy2 hQy with h | h
        · exact absurd ⟨y, hy2, hQy, h⟩ hup
        · exact h
      have hmx : ∀ i, i < n → mxB n A S i = mxB n A P i := fun i hi => by
        rw [Bool.eq_iff_iff, mxB_t, mxB_t, hS i hi, Bool.or_eq_true]
        constructor
        · rintro ⟨h1 | h1, h2⟩
          · exact ⟨h1, fun b hb w => h2 b hb (by rw [hS b hb, w]; rfl)⟩
          · have h3 := h2 x0 hx0 (by rw [hS x0 hx0, hPx0]; rfl)
            rw [hall i hi h1 x0 hx0 hPx0] at h3; cases h3
        · rintro ⟨h1, h2⟩
          refine ⟨Or.inl h1, fun b hb w => ?_⟩
          rw [hS b hb, Bool.or_eq_true] at w
          rcases w with w | w
          · exact h2 b hb w
          · rw [Bool.eq_false_iff]
            intro g
            exact asym i b hi hb g (hall b hb w i hi h1)
      rw [hp]
      rw [sumC_c (c' := mxB n A P) (f' := fun a => eF n A (ct Q n) Q * eF n A p (fun x => P x && !decide (x = a))) (fun a ha => ⟨hmx a ha, fun hm => ?_⟩)]
      · rw [sumC_mul, Int64.mul_comm]; rfl
      · rw [hmx a ha] at hm
        have hPa := (mxB_t.mp hm).1
        have hc1 := rm_ct ha hPa hp
        have := ext_ser hP k (fun x => P x && !decide (x = a)) Q (fun x => S x && !decide (x = a)) (by rw [hc1]; omega) (fun i hi => by
          rw [hS i hi]
          by_cases e : i = a
          · rw [decide_eq_true e, e, hd a ha hPa]; simp
          · rw [decide_eq_false e]; simp) (fun i hi w => hd i hi (by rw [Bool.and_eq_true] at w; exact w.1)) (fun y hy2 w => Or.inr (fun x hx w2 => hall y hy2 w x hx (by rw [Bool.and_eq_true] at w2; exact w2.1)))
        rw [this, hc1, Int64.mul_comm]
/-! the same number for an order told in other places -/
theorem sumC_rm {h : Nat → Int64} {q : Nat → Bool} {y : Nat} : ∀ {m : Nat}, y < m → q y = true → sumC q h m = sumC (fun w => q w && decide (¬ w = y)) h m + h y
  | 0, hy, _ => absurd hy (Nat.not_lt_zero _)
  | m + 1, hy, hq => by
    rw [sumC, sumC]
    by_cases e : y = m
    · subst e
      rw [if_pos hq, if_neg (by rw [decide_eq_false (not_not_intro rfl)]; simp)]
      congr 1
      exact sumC_c (fun i hi => ⟨by rw [decide_eq_true (show ¬ i = y by omega), Bool.and_true], fun _ => rfl⟩)
    · rw [sumC_rm (show y < m by omega) hq]
      by_cases q2 : q m = true
      · rw [if_pos q2, if_pos (by rw [q2, decide_eq_true (show ¬ m = y from fun w => e w.symm)]; rfl), Int64.add_assoc, Int64.add_assoc, Int64.add_comm (h y)]
      · rw [if_neg q2, if_neg (by intro w; rw [Bool.and_eq_true] at w; exact q2 w.1)]
theorem sumC_bij {h h' : Nat → Int64} {f g : Nat → Nat} {m : Nat} : ∀ {n : Nat} {p q : Nat → Bool}, (∀ x, x < n → p x = true → f x < m ∧ q (f x) = true ∧ g (f x) = x ∧ h' (f x) = h x) → (∀ y, y < m → q y = true → g y < n ∧ p (g y) = true ∧ f (g y) = y) → sumC p h n = sumC q h' m
  | 0, p, q, _, h2 => (sumC_n (fun k hk => by
      rw [Bool.eq_false_iff]
      intro w
      exact absurd (h2 k hk w).1 (Nat.not_lt_zero _))).symm
  | n + 1, p, q, h1, h2 => by
    rw [sumC]
    by_cases e : p n = true
    · rw [if_pos e]
      obtain ⟨a1, a2, a3, a4⟩ := h1 n (by omega) e
      rw [sumC_rm a1 a2, a4]
      congr 1
      refine sumC_bij (f := f) (g := g) (fun x hx hp => ?_) (fun y hy hq => ?_)
      · obtain ⟨b1, b2, b3, b4⟩ := h1 x (by omega) hp
        refine ⟨b1, ?_, b3, b4⟩
        rw [b2, decide_eq_true (show ¬ f x = f n from fun w => by rw [w, a3] at b3; omega)]; rfl
      · rw [Bool.and_eq_true, decide_eq_true_eq] at hq
        obtain ⟨b1, b2, b3⟩ := h2 y hy hq.1
        refine ⟨?_, b2, b3⟩
        have : g y ≠ n := fun w => hq.2 (by rw [← b3, w])
        omega
    · rw [if_neg e]
      refine sumC_bij (f := f) (g := g) (fun x hx hp => h1 x (by omega) hp) (fun y hy hq => ?_)
      obtain ⟨b1, b2, b3⟩ := h2 y hy hq
      have : g y ≠ n := fun w => by rw [w] at b2; exact e b2
      exact ⟨by omega, b2, b3⟩
theorem eF_iso {n m : Nat} {A A' : Nat → Int32} {f g : Nat → Nat} : ∀ (k : Nat) (S T : Nat → Bool), (∀ x, x < n → S x = true → f x < m ∧ T (f x) = true ∧ g (f x) = x) → (∀ y, y < m → T y = true → g y < n ∧ S (g y) = true ∧ f (g y) = y) → (∀ x y, x < n → y < n → S x = true → S y = true → bt (A x) y = bt (A' (f x)) (f y)) → eF n A k S = eF m A' k T
  | 0, _, _, _, _, _ => rfl
  | k + 1, S, T, h1, h2, h3 => by
    rw [eF, eF]
    have hmx : ∀ x, x < n → S x = true → (mxB n A S x = true ↔ mxB m A' T (f x) = true) := fun x hx hs => by
      obtain ⟨a1, a2, a3⟩ := h1 x hx hs
      rw [mxB_t, mxB_t]
      constructor
      · rintro ⟨_, q⟩
        refine ⟨a2, fun b hb hT => ?_⟩
        obtain ⟨b1, b2, b3⟩ := h2 b hb hT
        rw [← b3, ← h3 x (g b) hx b1 hs b2]
        exact q _ b1 b2
      · rintro ⟨_, q⟩
        refine ⟨hs, fun b hb hS => ?_⟩
        obtain ⟨b1, b2, b3⟩ := h1 b hb hS
        rw [h3 x b hx hb hs hS]
        exact q _ b1 b2
    refine sumC_bij (f := f) (g := g) (fun x hx hm => ?_) (fun y hy hm => ?_)
    · have hs := (mxB_t.mp hm).1
      obtain ⟨a1, a2, a3⟩ := h1 x hx hs
      refine ⟨a1, (hmx x hx hs).mp hm, a3, ?_⟩
      refine (eF_iso (f := f) (g := g) k _ _ (fun w hw q => ?_) (fun w hw q => ?_) (fun w v hw hv q1 q2 => h3 w v hw hv (by rw [Bool.and_eq_true] at q1; exact q1.1) (by rw [Bool.and_eq_true] at q2; exact q2.1))).symm
      · rw [Bool.and_eq_true, Bool.not_eq_true', decide_eq_false_iff_not] at q
        obtain ⟨b1, b2, b3⟩ := h1 w hw q.1
        refine ⟨b1, ?_, b3⟩
        rw [b2, decide_eq_false (fun e => q.2 (by rw [← b3, ← a3, e]))]; rfl
      · rw [Bool.and_eq_true, Bool.not_eq_true', decide_eq_false_iff_not] at q
        obtain ⟨b1, b2, b3⟩ := h2 w hw q.1
        refine ⟨b1, ?_, b3⟩
        rw [b2, decide_eq_false (fun e => q.2 (by rw [← b3, e]))]; rfl
    · have ht := (mxB_t.mp hm).1
      obtain ⟨b1, b2, b3⟩ := h2 y hy ht
      exact ⟨b1, (hmx _ b1 b2).mpr (by rw [b3]; exact hm), b3⟩
