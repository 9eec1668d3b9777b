/-! LIKENESS: bijections that keep the order; types as they come -/
theorem ct_inj {f : Nat → Nat} {m : Nat} : ∀ {n : Nat} {p q : Nat → Bool}, (∀ i, i < n → p i = true → f i < m ∧ q (f i) = true) → (∀ i j, i < n → j < n → p i = true → p j = true → f i = f j → i = j) → ct p n ≤ ct q m
  | 0, _, _, _, _ => Nat.zero_le _
  | n + 1, p, q, h, hi => by
    rw [ct]
    by_cases e : p n = true
    · rw [if_pos e]
      obtain ⟨h1, h2⟩ := h n (by omega) e
      have := ct_rm h1 h2
      rw [← this]
      apply Nat.succ_le_succ
      refine ct_inj (fun i hin hp => ?_) (fun i j a b => hi i j (by omega) (by omega))
      obtain ⟨g1, g2⟩ := h i (by omega) hp
      refine ⟨g1, ?_⟩
      rw [g2, Bool.true_and, Bool.not_eq_true', decide_eq_false_iff_not]
      intro q
      have := hi i n (by omega) (by omega) hp e q
      omega
    · rw [if_neg e, Nat.add_zero]
      exact ct_inj (fun i hin => h i (by omega)) (fun i j a b => hi i j (by omega) (by omega))
/-- one way on, one way back -/
def isoP (n : Nat) (A : Nat → Int32) (s t : Int32) (f g : Nat → Nat) : Prop :=
  (∀ x, x < n → bt s x = true → f x < n ∧ bt t (f x) = true ∧ g (f x) = x) ∧ (∀ y, y < n → bt t y = true → g y < n ∧ bt s (g y) = true ∧ f (g y) = y) ∧ ∀ x y, x < n → y < n → bt s x = true → bt s y = true → bt (A x) y = bt (A (f x)) (f y)
def Alk (n : Nat) (A : Nat → Int32) (s t : Int32) : Prop := ∃ f g, isoP n A s t f g
noncomputable def alB (n : Nat) (A : Nat → Int32) (s t : Int32) : Bool := @decide (Alk n A s t) (Classical.propDecidable _)
theorem alB_t {n : Nat} {A : Nat → Int32} {s t : Int32} : alB n A s t = true ↔ Alk n A s t := by
  unfold alB
  exact @decide_eq_true_iff _ (Classical.propDecidable _)
theorem iso_ct {n : Nat} {A : Nat → Int32} {s t : Int32} {f g : Nat → Nat} (h : isoP n A s t f g) {p q : Nat → Bool} (hp : ∀ x, x < n → p x = true → bt s x = true) (hq : ∀ y, y < n → q y = true → bt t y = true) (hpq : ∀ x, x < n → bt s x = true → p x = q (f x)) : ct p n = ct q n := by
  apply Nat.le_antisymm
  · refine ct_inj (f := f) (fun i hi hpi => ?_) (fun i j hi hj h1 h2 e => ?_)
    · have hs := hp i hi hpi
      obtain ⟨a, b, c⟩ := h.1 i hi hs
      exact ⟨a, by rw [← hpq i hi hs]; exact hpi⟩
    · rw [← (h.1 i hi (hp i hi h1)).2.2, ← (h.1 j hj (hp j hj h2)).2.2, e]
  · refine ct_inj (f := g) (fun i hi hqi => ?_) (fun i j hi hj h1 h2 e => ?_)
    · have ht := hq i hi hqi
      obtain ⟨a, b, c⟩ := h.2.1 i hi ht
      exact ⟨a, by rw [hpq _ a b, c]; exact hqi⟩
    · rw [← (h.2.1 i hi (hq i hi h1)).2.2, ← (h.2.1 j hj (hq j hj h2)).2.2, e]
theorem iso_size {n : Nat} {A : Nat → Int32} {s t : Int32} {f g : Nat → Nat} (h : isoP n A s t f g) : ct (bt s) n = ct (bt t) n :=
  iso_ct h (fun _ _ h => h) (fun _ _ h => h) (fun x hx hs => by rw [hs, (h.1 x hx hs).2.1])
theorem iso_le {n : Nat} {A : Nat → Int32} {s t : Int32} {f g : Nat → Nat} (h32 : n ≤ 32) (h : isoP n A s t f g) {x y : Nat} (hx : x < n) (hy : y < n) (hsx : bt s x = true) (hsy : bt s y = true) : le A x y = le A (f x) (f y) := by
  obtain ⟨a, b, c⟩ := h.1 x hx hsx
  obtain ⟨a', b', c'⟩ := h.1 y hy hsy
  rw [le_b (by omega) (by omega), le_b (by omega) (by omega), h.2.2 x y hx hy hsx hsy]
  congr 1
  apply decide_eq_decide.mpr
  constructor
  · intro e; rw [e]
  · intro e; rw [← c, ← c', e]
/-! types, in the order of the pairs -/
abbrev TyS : Type := Nat × (Nat → Nat) × (Nat → Nat)
abbrev TyS.tm (σ : TyS) : Nat := σ.1
abbrev TyS.ty (σ : TyS) : Nat → Nat := σ.2.1
abbrev TyS.fs (σ : TyS) : Nat → Nat := σ.2.2
noncomputable def tyT (n : Nat) (A : Nat → Int32) (σ : TyS) (a b : Nat) : Nat := scan (fun t => alB n A (ivS n A a b) (ivS n A (σ.fs t / 16) (σ.fs t % 16))) id σ.tm σ.tm 0
noncomputable def tyStep (n : Nat) (A : Nat → Int32) (σ : TyS) (a b : Nat) : TyS :=
  if le A a b = true then
    (if tyT n A σ a b < σ.tm then ⟨σ.tm, fun k => if k = 16 * a + b then tyT n A σ a b else σ.ty k, σ.fs⟩
     else ⟨σ.tm + 1, fun k => if k = 16 * a + b then σ.tm else σ.ty k, fun k => if k = σ.tm then 16 * a + b else σ.fs k⟩)
  else σ
noncomputable def tyRow (n : Nat) (A : Nat → Int32) (σ : TyS) (a : Nat) : Nat → TyS
  | 0 => σ
  | b + 1 => tyStep n A (tyRow n A σ a b) a b
noncomputable def tyAll (n : Nat) (A : Nat → Int32) : Nat → TyS
  | 0 => ⟨0, fun _ => 0, fun _ => 0⟩
  | a + 1 => tyRow n A (tyAll n A a) a n
noncomputable def tyO (n : Nat) (A : Nat → Int32) : TyS := tyAll n A n
/-- how many pairs: no more than half, and the pairs of one with itself -/
def sN (f : Nat → Nat) : Nat → Nat
  | 0 => 0
  | n + 1 => sN f n + f n
theorem sN_le {f g : Nat → Nat} : ∀ {n : Nat}, (∀ i, i < n → f i ≤ g i) → sN f n ≤ sN g n
  | 0, _ => Nat.le_refl _
  | n + 1, h => Nat.add_le_add (sN_le (fun i hi => h i (by omega))) (h n (by omega))
theorem sN_add {f g : Nat → Nat} : ∀ {n : Nat}, sN (fun i => f i + g i) n = sN f n + sN g n
  | 0 => rfl
  | n + 1 => by rw [sN, sN, sN, sN_add]; omega
theorem sN_k {c : Nat} : ∀ {n : Nat}, sN (fun _ => c) n = n * c
  | 0 => by rw [sN, Nat.zero_mul]
  | n + 1 => by rw [sN, sN_k, Nat.add_mul, Nat.one_mul]
theorem ct_sN {f : Nat → Bool} : ∀ {n : Nat}, ct f n = sN (fun i => if f i = true then 1 else 0) n
  | 0 => rfl
  | n + 1 => by rw [ct, sN, ct_sN]
theorem sN_c {f g : Nat → Nat} : ∀ {n : Nat}, (∀ i, i < n → f i = g i) → sN f n = sN g n
  | 0, _ => rfl
  | n + 1, h => by rw [sN, sN, sN_c (fun i hi => h i (by omega)), h n (by omega)]
theorem sN_sw {f : Nat → Nat → Nat} {m : Nat} : ∀ {n : Nat}, sN (fun a => sN (fun b => f a b) m) n = sN (fun b => sN (fun a => f a b) n) m
  | 0 => by
    rw [sN]
    show 0 = sN (fun _ => 0) m
    rw [sN_k, Nat.mul_zero]
  | n + 1 => by
    rw [sN, sN_sw, ← sN_add]
    exact sN_c (fun _ _ => rfl)
theorem lt_pairs {n : Nat} {A : Nat → Int32} (hP : PO n A) (h16 : n ≤ 16) : sN (fun a => ct (fun b => le A a b) n) n ≤ 136 := by
  have e1 : sN (fun a => ct (fun b => le A a b) n) n = sN (fun a => ct (fun b => bt (A a) b) n) n + n := by
    have : sN (fun a => ct (fun b => le A a b) n) n = sN (fun a => ct (fun b => bt (A a) b) n + 1) n := by
      refine sN_c (fun a ha => ?_)
      rw [← ct_one (x := a) ha, ← ct_add]
      · exact ct_cong (fun b hb => le_b (by omega) (by omega))
      · rintro b hb ⟨h1, h2⟩
        rw [decide_eq_true_eq] at h2
        subst h2
        rw [hP.2.1 b hb] at h1
        cases h1
    rw [this, sN_add, sN_k, Nat.mul_one]
  have e2 : sN (fun a => ct (fun b => bt (A a) b) n) n = sN (fun a => ct (fun b => bt (A b) a) n) n := by
    have h1 : sN (fun a => ct (fun b => bt (A a) b) n) n = sN (fun a => sN (fun b => if bt (A a) b = true then 1 else 0) n) n := sN_c (fun a _ => ct_sN)
    have h2 : sN (fun a => ct (fun b => bt (A b) a) n) n = sN (fun a => sN (fun b => if bt (A b) a = true then 1 else 0) n) n := sN_c (fun a _ => ct_sN)
    rw [h1, h2, sN_sw]
  have e3 : sN (fun a => ct (fun b => bt (A a) b) n) n + sN (fun a => ct (fun b => bt (A b) a) n) n ≤ n * (n - 1) := by
    rw [← sN_add, ← sN_k]
    refine sN_le (fun a ha => ?_)
    rw [← ct_add]
    · have h1 : ct (fun b => bt (A a) b || bt (A b) a) n ≤ ct (fun b => true && !decide (b = a)) n := by
        refine ct_sub (fun b hb h => ?_)
        rw [Bool.true_and, Bool.not_eq_true', decide_eq_false_iff_not]
        intro e
        subst e
        rw [hP.2.1 b hb] at h
        cases h
      have h2 := ct_rm (f := fun _ => true) ha rfl
      have h3 := ct_le (fun _ => true) n
      omega
    · rintro b hb ⟨h1, h2⟩
      have := hP.2.2 a b a ha hb ha h1 h2
      rw [hP.2.1 a ha] at this
      cases this
  have e4 : n * (n - 1) ≤ 16 * 15 := Nat.mul_le_mul h16 (by omega)
  omega
theorem tyT_le {n : Nat} {A : Nat → Int32} {σ : TyS} {a b : Nat} : tyT n A σ a b ≤ σ.tm := by
  rw [tyT]
  rcases scan_or (p := fun t => alB n A (ivS n A a b) (ivS n A (σ.fs t / 16) (σ.fs t % 16))) (r := id) (d := σ.tm) σ.tm 0 with ⟨h1, _⟩ | ⟨j, _, h2, _, h4, _⟩
  · rw [h1]; exact Nat.le_refl _
  · rw [h4]; show j ≤ σ.tm; omega
/-- what holds of the types, up to a pair -/
def TyI (n : Nat) (A : Nat → Int32) (σ : TyS) (c : Nat) : Prop := σ.tm ≤ c ∧ ∀ t, t < σ.tm → ∃ a b, a < n ∧ b < n ∧ le A a b = true ∧ σ.fs t = 16 * a + b
theorem tyStep_I {n c a b : Nat} {A : Nat → Int32} {σ : TyS} (h : TyI n A σ c) (ha : a < n) (hb : b < n) : TyI n A (tyStep n A σ a b) (c + if le A a b = true then 1 else 0) := by
  rw [tyStep]
  by_cases hl : le A a b = true
  · rw [if_pos hl, if_pos hl]
    by_cases ht : tyT n A σ a b < σ.tm
    · rw [if_pos ht]
      exact ⟨by show σ.tm ≤ c + 1; have := h.1; omega, h.2⟩
    · rw [if_neg ht]
      refine ⟨by show σ.tm + 1 ≤ c + 1; have := h.1; omega, fun t ht2 => ?_⟩
      show ∃ a' b', a' < n ∧ b' < n ∧ le A a' b' = true ∧ (if t = σ.tm then 16 * a + b else σ.fs t) = 16 * a' + b'
      by_cases e : t = σ.tm
      · rw [if_pos e]; exact ⟨a, b, ha, hb, hl, rfl⟩
      · rw [if_neg e]; exact h.2 t (by have : t < σ.tm + 1 := ht2; omega)
  · rw [if_neg hl, if_neg hl]; exact h
theorem tyRow_I {n c a : Nat} {A : Nat → Int32} {σ : TyS} (h : TyI n A σ c) (ha : a < n) : ∀ b, b ≤ n → TyI n A (tyRow n A σ a b) (c + ct (fun b => le A a b) b)
  | 0, _ => h
  | b + 1, hb => by
    rw [tyRow, ct, ← Nat.add_assoc]
    exact tyStep_I (tyRow_I h ha b (by omega)) ha (by omega)
theorem tyAll_I {n : Nat} {A : Nat → Int32} : ∀ a, a ≤ n → TyI n A (tyAll n A a) (sN (fun a => ct (fun b => le A a b) n) a)
  | 0, _ => ⟨Nat.le_refl _, fun t ht => absurd ht (Nat.not_lt_zero _)⟩
  | a + 1, ha => by
    rw [tyAll, sN]
    exact tyRow_I (tyAll_I a (by omega)) (by omega) n (Nat.le_refl _)
theorem sN_mono {f : Nat → Nat} {m : Nat} : ∀ {n : Nat}, m ≤ n → sN f m ≤ sN f n
  | 0, h => by rw [show m = 0 by omega]; exact Nat.le_refl _
  | n + 1, h => by
    by_cases e : m = n + 1
    · subst e; exact Nat.le_refl _
    · exact Nat.le_trans (sN_mono (by omega)) (Nat.le_add_right _ _)
theorem ty_136 {n a b : Nat} {A : Nat → Int32} (hP : PO n A) (h16 : n ≤ 16) (ha : a < n) (hb : b < n) (hl : le A a b = true) : (tyRow n A (tyAll n A a) a b).tm < 136 := by
  have h1 := (tyRow_I (tyAll_I (n := n) (A := A) a (by omega)) ha b (by omega)).1
  have h2 := lt_pairs hP h16
  have h3 := ct_lt (f := fun b => le A a b) hb hl
  have h4 := sN_mono (f := fun a => ct (fun b => le A a b) n) (show a + 1 ≤ n by omega)
  rw [sN] at h4
  omega
theorem tyO_I {n : Nat} {A : Nat → Int32} (hP : PO n A) (h16 : n ≤ 16) : TyI n A (tyO n A) 136 :=
  ⟨Nat.le_trans (tyAll_I n (Nat.le_refl _)).1 (lt_pairs hP h16), (tyAll_I n (Nat.le_refl _)).2⟩
/-- each pair's type is one of them -/
theorem tyStep_k {n : Nat} {A : Nat → Int32} {σ : TyS} {a b k : Nat} (hk : k ≠ 16 * a + b) : (tyStep n A σ a b).ty k = σ.ty k := by
  rw [tyStep]
  split
  · split
    · exact if_neg hk
    · exact if_neg hk
  · rfl
theorem tyStep_s {n : Nat} {A : Nat → Int32} {σ : TyS} {a b : Nat} (hl : le A a b = true) : (tyStep n A σ a b).ty (16 * a + b) = tyT n A σ a b ∧ tyT n A σ a b < (tyStep n A σ a b).tm := by
  rw [tyStep, if_pos hl]
  split
  · next h => exact ⟨if_pos rfl, h⟩
  · next h =>
    have := tyT_le (n := n) (A := A) (σ := σ) (a := a) (b := b)
    refine ⟨?_, ?_⟩
    · show (if 16 * a + b = 16 * a + b then σ.tm else _) = _
      rw [if_pos rfl]; omega
    · show tyT n A σ a b < σ.tm + 1
      omega
theorem tyStep_m {n : Nat} {A : Nat → Int32} {σ : TyS} {a b : Nat} : σ.tm ≤ (tyStep n A σ a b).tm := by
  rw [tyStep]
  split
  · split
    · exact Nat.le_refl _
    · exact Nat.le_succ _
  · exact Nat.le_refl _
theorem ty_lt {n : Nat} {A : Nat → Int32} (h16 : n ≤ 16) : ∀ a, a ≤ n → ∀ x y, x < a → y < n → le A x y = true → (tyAll n A a).ty (16 * x + y) < (tyAll n A a).tm
  | 0, _, x, y, hx, _, _ => absurd hx (Nat.not_lt_zero _)
  | a + 1, ha, x, y, hx, hy, hl => by
    have row : ∀ b, b ≤ n → (x < a ∨ x = a ∧ y < b) → (tyRow n A (tyAll n A a) a b).ty (16 * x + y) < (tyRow n A (tyAll n A a) a b).tm := by
      intro b
      induction b with
      | zero =>
        intro _ h
        exact ty_lt h16 a (by omega) x y (by omega) hy hl
      | succ b ih =>
        intro hb h
        rw [tyRow]
        by_cases e : x = a ∧ y = b
        · obtain ⟨rfl, rfl⟩ := e
          obtain ⟨h1, h2⟩ := tyStep_s (σ := tyRow n A (tyAll n A x) x y) (n := n) hl
          rw [h1]; exact h2
        · rw [tyStep_k (by omega)]
          exact Nat.lt_of_lt_of_le (ih (by omega) (by omega)) tyStep_m
    exact row n (Nat.le_refl _) (by omega)
theorem tyO_lt {n : Nat} {A : Nat → Int32} (h16 : n ≤ 16) {x y : Nat} (hx : x < n) (hy : y < n) (hl : le A x y = true) : (tyO n A).ty (16 * x + y) < (tyO n A).tm := ty_lt h16 n (Nat.le_refl _) x y hx hy hl
