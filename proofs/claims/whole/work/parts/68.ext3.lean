/-! LINEAR EXTENSIONS OF THE CLASS: what the first one reaches; the ways, put forward set by set -/
theorem b_negX (x : Int32) {i : Nat} (hi : i < 32) : bt (-x) i = (bt x i ^^ decide (∃ j, j < i ∧ bt x j = true)) := by
  show (-x).toBitVec.getLsbD i = _
  rw [Int32.toBitVec_neg, BitVec.getLsbD_neg, decide_eq_true hi, Bool.true_and]
  rfl
theorem low_b {n : Nat} {s : Int32} (h16 : n ≤ 16) (hc : 1 ≤ ct (bt s) n) : ∃ f, f < n ∧ bt s f = true ∧ ∀ i, i < 32 → bt (s &&& (-s)) i = decide (i = f) := by
  obtain ⟨f, hf, hb, h0⟩ := ct_sur (f := bt s) (i := 0) (n := n) (by omega)
  have hz := ct_0.mp h0
  refine ⟨f, hf, hb, fun i hi => ?_⟩
  rw [b_and, b_negX s hi]
  by_cases e : i = f
  · subst e
    rw [hb, decide_eq_true rfl, decide_eq_false (fun ⟨j, hj, q⟩ => by rw [hz j hj] at q; cases q)]; rfl
  · rw [decide_eq_false e]
    by_cases g : i < f
    · rw [hz i g]; rfl
    · rw [decide_eq_true (show ∃ j, j < i ∧ bt s j = true from ⟨f, by omega, hb⟩)]
      cases bt s i <;> rfl
section CT
variable {I : amI} {n : Nat} {A : Nat → Int32} {s b : Int32}
theorem cnT_in (hs : ∀ i, i < 32 → bt s i = true → i < n) : ∀ t i, i < 32 → bt (cnT I s b t) i = true → bt s i = true
  | 0, i, hi, h => by rw [cnT, b_and, Bool.and_eq_true] at h; exact h.1
  | t + 1, i, hi, h => by rw [cnT] at h; exact cnR_in hs (cnT_in hs t) _ i hi h
theorem cnT_up : ∀ t i, i < 32 → bt (cnT I s b t) i = true → bt (cnT I s b (t + 1)) i = true := fun t i hi h => by rw [cnT]; exact cnR_up _ i hi h
theorem cnT_grow (h16 : n ≤ 16) (hs : ∀ i, i < 32 → bt s i = true → i < n) (hc : 1 ≤ ct (bt s) n) : ∀ t, cnT I s b (t + 1) = cnT I s b t ∨ t + 2 ≤ ct (bt (cnT I s b (t + 1))) n := by
  have step : ∀ t, cnT I s b (t + 1) = cnT I s b t ∨ ct (bt (cnT I s b t)) n + 1 ≤ ct (bt (cnT I s b (t + 1))) n := fun t => by
    by_cases e : cnT I s b (t + 1) = cnT I s b t
    · exact Or.inl e
    · right
      have : ¬ ∀ i, i < 32 → bt (cnT I s b (t + 1)) i = bt (cnT I s b t) i := fun h => e (b_ext h)
      have ⟨i, hi⟩ := Classical.not_forall.mp this
      have ⟨hi, hne⟩ := Classical.not_imp.mp hi
      have h1 : bt (cnT I s b t) i = false := by
        rw [Bool.eq_false_iff]
        intro q
        exact hne (by rw [q, cnT_up t i hi q])
      have h2 : bt (cnT I s b (t + 1)) i = true := by
        cases h : bt (cnT I s b (t + 1)) i
        · rw [h, h1] at hne; exact absurd rfl hne
        · rfl
      exact ct_ssub (x := i) (fun j hj q => cnT_up t j (by omega) q) (hs i hi (cnT_in hs _ i hi h2)) h1 h2
  intro t
  induction t with
  | zero =>
    obtain ⟨f, hf, _, hl⟩ := low_b (s := s) h16 hc
    rcases step 0 with h | h
    · exact Or.inl h
    · right
      have : 1 ≤ ct (bt (cnT I s b 0)) n := by
        have := ct_lt (f := bt (cnT I s b 0)) hf (by rw [cnT, hl f (by omega), decide_eq_true rfl])
        omega
      omega
  | succ t ih =>
    rcases ih with h | h
    · left
      show cnR I s b (sz I 3) (cnT I s b (t + 1)) = cnR I s b (sz I 3) (cnT I s b t)
      rw [h]
    · rcases step (t + 1) with g | g
      · exact Or.inl g
      · right; omega
theorem cnT_fix (hO : OI I 3 n A) (hs : ∀ i, i < 32 → bt s i = true → i < n) (hc : 1 ≤ ct (bt s) n) : cnR I s b n (cnT I s b 16) = cnT I s b 16 := by
  have h16 := hO.2.2.1
  rcases cnT_grow (I := I) (b := b) h16 hs hc 15 with h | h
  · have e : cnT I s b 16 = cnR I s b n (cnT I s b 15) := by
      show cnR I s b (sz I 3) (cnT I s b 15) = _
      rw [sz_eq hO.1 h16]
    rw [h] at e ⊢
    exact e.symm
  · have := ct_le (bt (cnT I s b (15 + 1))) n
    omega
theorem cnT_cl (hO : OI I 3 n A) {X : Nat → Bool} (hX : ∀ x y, x < n → y < n → X x = true → bt s y = true → nbB n A b x y = true → X y = true) (hs : ∀ i, i < 32 → bt s i = true → i < n) (h0 : ∀ i, i < n → bt (s &&& (-s)) i = true → X i = true) : ∀ t i, i < n → bt (cnT I s b t) i = true → X i = true
  | 0, i, hi, h => h0 i hi h
  | t + 1, i, hi, h => by
    rw [cnT, sz_eq hO.1 hO.2.2.1] at h
    exact cnR_cl hO hX hs (cnT_cl hO hX hs h0 t) n (Nat.le_refl _) i hi h
theorem cnT_nb (hO : OI I 3 n A) (hs : ∀ i, i < 32 → bt s i = true → i < n) (hc : 1 ≤ ct (bt s) n) {x y : Nat} (hx : x < n) (hy : y < n) (h1 : bt (cnT I s b 16) x = true) (h2 : bt s y = true) (h3 : bt (cnT I s b 16) y = false) : nbB n A b x y = false := by
  rw [Bool.eq_false_iff]
  intro q
  have := cnR_fix hO n (Nat.le_refl _) (cnT_fix hO hs hc) x y hx hy h1 h2 q
  rw [h3] at this; cases this
theorem cnT_f {f : Nat} (h32 : f < 32) (hl : ∀ i, i < 32 → bt (s &&& (-s)) i = decide (i = f)) : ∀ t, bt (cnT I s b t) f = true
  | 0 => by rw [cnT, hl f h32]; exact decide_eq_true rfl
  | t + 1 => cnT_up t f h32 (cnT_f h32 hl t)
/-- both parts are smaller -/
theorem cnT_pt (h16 : n ≤ 16) (hs : ∀ i, i < 32 → bt s i = true → i < n) (hc : 1 ≤ ct (bt s) n) (hne : ¬ cnT I s b 16 = s) : ct (bt (cnT I s b 16)) n + ct (bt (s &&& (cnT I s b 16 ^^^ (-1)))) n = ct (bt s) n ∧ 1 ≤ ct (bt (cnT I s b 16)) n ∧ 1 ≤ ct (bt (s &&& (cnT I s b 16 ^^^ (-1)))) n ∧ (∀ i, i < n → bt s i = (bt (cnT I s b 16) i || bt (s &&& (cnT I s b 16 ^^^ (-1))) i)) ∧ (∀ i, i < n → bt (cnT I s b 16) i = true → bt (s &&& (cnT I s b 16 ^^^ (-1))) i = false) := by
  have hin := cnT_in (I := I) (b := b) hs 16
  generalize hp : cnT I s b 16 = p at *
  have hor : ∀ i, i < n → bt s i = (bt p i || bt (s &&& (p ^^^ (-1))) i) := fun i hi => by
    rw [b_and, b_not _ (by omega)]
    have := hin i (by omega)
    cases h1 : bt s i <;> cases h2 : bt p i
    · rfl
    · rw [h1, h2] at this; exact absurd (this rfl) (by decide)
    · rfl
    · rfl
  have hdj : ∀ i, i < n → bt p i = true → bt (s &&& (p ^^^ (-1))) i = false := fun i hi q => by
    rw [b_and, b_not _ (by omega), q]; simp
  have hsum : ct (bt p) n + ct (bt (s &&& (p ^^^ (-1)))) n = ct (bt s) n := by
    rw [ct_cong hor, ct_or hdj]
  have h1 : 1 ≤ ct (bt p) n := by
    obtain ⟨f, hf, _, hl⟩ := low_b (s := s) h16 hc
    have := ct_lt (f := bt p) hf (by rw [← hp]; exact cnT_f (by omega) hl 16)
    omega
  refine ⟨hsum, h1, ?_, hor, hdj⟩
  rcases Nat.eq_zero_or_pos (ct (bt (s &&& (p ^^^ (-1)))) n) with h | h
  · refine absurd (b_ext fun i hi => ?_) hne
    cases h2 : bt p i
    · cases h3 : bt s i
      · rfl
      · have hi2 := hs i hi h3
        have := hor i hi2
        rw [h2, h3, ct_0.mp h i hi2] at this
        cases this
    · exact (hin i hi h2).symm
  · exact h
theorem ext_cn1 (hO : OI I 3 n A) (hs : ∀ i, i < 32 → bt s i = true → i < n) (hc : 1 ≤ ct (bt s) n) (hb : b ≠ 0) (hne : ¬ cnT I s b 16 = s) : eF n A (ct (bt s) n) (bt s) = lN (chN (ct (bt s) n) (ct (bt (cnT I s b 16)) n)) * eF n A (ct (bt (cnT I s b 16)) n) (bt (cnT I s b 16)) * eF n A (ct (bt (s &&& (cnT I s b 16 ^^^ (-1)))) n) (bt (s &&& (cnT I s b 16 ^^^ (-1)))) := by
  have h16 := hO.2.2.1
  obtain ⟨h1, h2, h3, h4, h5⟩ := cnT_pt h16 hs hc hne
  refine ext_par _ _ _ _ h1 h4 h5 (fun x y hx hy p q => ?_)
  rw [b_and, b_not _ (by omega), Bool.and_eq_true, Bool.not_eq_true'] at q
  have := cnT_nb hO hs hc hx hy p q.1 q.2
  rw [nbB, if_neg hb, Bool.or_eq_false_iff] at this
  exact this
theorem ext_cn0 (hO : OI I 3 n A) (hs : ∀ i, i < 32 → bt s i = true → i < n) (hc : 1 ≤ ct (bt s) n) (hne : ¬ cnT I s 0 16 = s) : eF n A (ct (bt s) n) (bt s) = eF n A (ct (bt (cnT I s 0 16)) n) (bt (cnT I s 0 16)) * eF n A (ct (bt (s &&& (cnT I s 0 16 ^^^ (-1)))) n) (bt (s &&& (cnT I s 0 16 ^^^ (-1)))) := by
  have h16 := hO.2.2.1
  have hP := hO.2.2.2.2.2.1
  obtain ⟨h1, h2, h3, h4, h5⟩ := cnT_pt h16 hs hc hne
  obtain ⟨f, hf, _, hl⟩ := low_b (s := s) h16 hc
  refine ext_ser hP _ _ _ _ h1 h4 h5 (fun y hy q => ?_)
  rw [b_and, b_not _ (by omega), Bool.and_eq_true, Bool.not_eq_true'] at q
  have comp : ∀ x, x < n → bt (cnT I s 0 16) x = true → bt (A x) y = true ∨ bt (A y) x = true := fun x hx p => by
    have := cnT_nb hO hs hc hx hy p q.1 q.2
    rw [nbB, if_pos rfl, Bool.not_eq_false', Bool.or_eq_true] at this
    exact this
  have same : ∀ x, x < n → bt (cnT I s 0 16) x = true → bt (A x) y = bt (A f) y := fun x hx p => by
    have := cnT_cl hO (X := fun x => bt (cnT I s 0 16) x && decide (bt (A x) y = bt (A f) y)) (s := s) (b := 0) (fun u v hu hv hX hsv hnb => by
      rw [Bool.and_eq_true, decide_eq_true_eq] at hX ⊢
      have hv2 : bt (cnT I s 0 16) v = true := cnR_fix hO n (Nat.le_refl _) (cnT_fix hO hs hc) u v hu hv hX.1 hsv hnb
      refine ⟨hv2, ?_⟩
      rw [← hX.2]
      rw [nbB, if_pos rfl, Bool.not_eq_true', Bool.or_eq_false_iff] at hnb
      cases e1 : bt (A u) y <;> cases e2 : bt (A v) y
      · rfl
      · have e3 : bt (A y) u = true := by
          rcases comp u hu hX.1 with h | h
          · rw [e1] at h; cases h
          · exact h
        have := hP.2.2 v y u hv hy hu e2 e3
        rw [hnb.2] at this; cases this
      · have e3 : bt (A y) v = true := by
          rcases comp v hv hv2 with h | h
          · rw [e2] at h; cases h
          · exact h
        have := hP.2.2 u y v hu hy hv e1 e3
        rw [hnb.1] at this; cases this
      · rfl) hs (fun i hi h => by
        rw [hl i (by omega), decide_eq_true_eq] at h
        subst h
        rw [Bool.and_eq_true, decide_eq_true_eq]
        exact ⟨cnT_f (by omega) hl 16, rfl⟩) 16 x hx p
    rw [Bool.and_eq_true, decide_eq_true_eq] at this
    exact this.2
  cases e : bt (A f) y
  · right
    intro x hx p
    rcases comp x hx p with h | h
    · rw [same x hx p, e] at h; cases h
    · exact h
  · left
    intro x hx p
    rw [same x hx p, e]
end CT
theorem cnR_I {I I1 : amI} {n : Nat} {A : Nat → Int32} {s b : Int32} (hO : OI I 3 n A) (hO1 : OI I1 3 n A) (p : Int32) : ∀ k, k ≤ n → cnR I s b k p = cnR I1 s b k p
  | 0, _ => rfl
  | k + 1, h => by rw [cnR, cnR, cnR_I hO hO1 p k (by omega), hO.cmq (by omega), hO1.cmq (by omega)]
theorem cnT_I {I I1 : amI} {n : Nat} {A : Nat → Int32} {s b : Int32} (hO : OI I 3 n A) (hO1 : OI I1 3 n A) : ∀ t, cnT I s b t = cnT I1 s b t
  | 0 => rfl
  | t + 1 => by rw [cnT, cnT, cnT_I hO hO1 t, sz_eq hO.1 hO.2.2.1, sz_eq hO1.1 hO1.2.2.1, cnR_I hO hO1 _ n (Nat.le_refl _)]
/-! the ways, put forward -/
theorem xr_b {u a i : Nat} : (u ^^^ 2 ^ a).testBit i = (u.testBit i ^^ decide (a = i)) := by rw [Nat.testBit_xor, Nat.testBit_two_pow]
theorem xr_k {u a : Nat} (h : u.testBit a = true) (i : Nat) : (u ^^^ 2 ^ a).testBit i = (u.testBit i && !decide (i = a)) := by
  rw [xr_b]
  by_cases e : i = a
  · rw [e, h, decide_eq_true rfl]; rfl
  · rw [decide_eq_false e, decide_eq_false (fun q => e q.symm)]; simp
theorem xr_lt {u a : Nat} (h : u.testBit a = true) : u ^^^ 2 ^ a < u := by
  have hb := xr_k h
  generalize u ^^^ 2 ^ a = k at hb
  have h1 : k &&& u = k := sub_iff.mpr (fun i hi => by rw [hb i, Bool.and_eq_true] at hi; exact hi.1)
  have h2 : k ≤ u := by rw [← h1]; exact Nat.and_le_right
  have h3 : k ≠ u := fun q => by
    have := hb a
    rw [q, h] at this
    simp at this
  omega
def ndB (m : Nat) (A : Nat → Int32) (a t : Nat) : Bool := decide ((bn m A a &&& (nI t ^^^ (-1))) = 0)
theorem ndB_t {m : Nat} {A : Nat → Int32} {a t : Nat} (h16 : m ≤ 16) : ndB m A a t = true ↔ ∀ w, w < m → bt (A w) a = true → t.testBit w = true := by
  rw [ndB, decide_eq_true_eq]
  constructor
  · intro h w hw q
    have h2 : bt (bn m A a &&& (nI t ^^^ (-1))) w = false := by rw [h, b_0]
    rw [b_and, bn_bt (by omega) (by omega), decide_eq_true hw, q, b_not _ (by omega), bt_nI t w (by omega)] at h2
    cases e : t.testBit w
    · rw [e] at h2; cases h2
    · rfl
  · intro h
    refine b_ext fun i hi => ?_
    rw [b_and, bn_bt (by omega) hi, b_not _ hi, bt_nI t i hi, b_0]
    by_cases e : i < m
    · rw [decide_eq_true e]
      cases q : bt (A i) a
      · rfl
      · rw [h i e q]; rfl
    · rw [decide_eq_false e]; rfl
def fwW (m : Nat) (A : Nat → Int32) (t i u a : Nat) : Int64 := if (u.testBit a && ndB m A a (u ^^^ 2 ^ a) && (decide (u ^^^ 2 ^ a < t) || (decide (u ^^^ 2 ^ a = t) && decide (a < i)))) = true then exV m A (u ^^^ 2 ^ a) else 0
def fwV (m : Nat) (A : Nat → Int32) (t i u : Nat) : Int64 := if u = 0 then 1 else sumN (fwW m A t i u) m
theorem exV_0 {m : Nat} {A : Nat → Int32} : exV m A 0 = 1 := by
  rw [exV, if_pos (dsM_t.mpr (fun a x _ _ h _ => by rw [Nat.zero_testBit] at h; cases h)), ct_0.mpr (fun i _ => Nat.zero_testBit i), eF]
theorem fwV_t {m t i u : Nat} {A : Nat → Int32} (hP : PO m A) (h16 : m ≤ 16) (hu : u < 2 ^ m) (ht : u ≤ t) : fwV m A t i u = exV m A u := by
  rw [fwV]
  by_cases e0 : u = 0
  · rw [if_pos e0, e0, exV_0]
  rw [if_neg e0]
  obtain ⟨b, hb⟩ : ∃ b, u.testBit b = true := by
    apply Classical.byContradiction
    intro q
    exact e0 (Nat.eq_of_testBit_eq (fun i => by
      rw [Nat.zero_testBit, Bool.eq_false_iff]
      exact fun h => q ⟨i, h⟩))
  have hW : ∀ a, u.testBit a = true → ndB m A a (u ^^^ 2 ^ a) = true → fwW m A t i u a = exV m A (u ^^^ 2 ^ a) := fun a h1 h2 => by
    have := xr_lt h1
    rw [fwW, h1, h2, decide_eq_true (show u ^^^ 2 ^ a < t by omega)]; rfl
  have hW0 : ∀ a, u.testBit a = false → fwW m A t i u a = 0 := fun a h => by rw [fwW, h]; rfl
  have hW1 : ∀ a, ndB m A a (u ^^^ 2 ^ a) = false → fwW m A t i u a = 0 := fun a h => by rw [fwW, h]; simp
  cases hd : dsM m A u
  · rw [exV, if_neg (by rw [hd]; decide)]
    refine sumN_z (fun a ha => ?_)
    cases h1 : u.testBit a
    · exact hW0 a h1
    cases h2 : ndB m A a (u ^^^ 2 ^ a)
    · exact hW1 a h2
    rw [hW a h1 h2, exV, if_neg]
    intro q
    have : dsM m A u = true := dsM_t.mpr (fun x y hx hy g1 g2 => by
      by_cases e : x = a
      · subst e
        have := (ndB_t h16).mp h2 y hy g2
        rw [xr_k h1, Bool.and_eq_true] at this
        exact this.1
      · have := dsM_t.mp q x y hx hy (by rw [xr_k h1, g1, decide_eq_false e]; rfl) g2
        rw [xr_k h1, Bool.and_eq_true] at this
        exact this.1)
    rw [hd] at this; cases this
  · have hc := ct_rm (f := fun i => u.testBit i) (tbn hu hb) hb
    obtain ⟨c, hc2⟩ : ∃ c, ct (fun i => u.testBit i) m = c + 1 := ⟨_, hc.symm⟩
    rw [exV, if_pos hd, hc2, eF, sumC_N]
    refine sumN_c (fun a ha => ?_)
    cases h1 : u.testBit a
    · rw [hW0 a h1, if_neg (by rw [mxB, h1, Bool.false_and]; decide)]
    have h2 : ndB m A a (u ^^^ 2 ^ a) = true := (ndB_t h16).mpr (fun w hw q => by
      rw [xr_k h1, dsM_t.mp hd a w ha hw h1 q, decide_eq_false (fun e => by rw [e, hP.2.1 a ha] at q; cases q)]; rfl)
    rw [hW a h1 h2, exV, ds_rm hP (by omega) hd ha h1 (xr_k h1)]
    by_cases hm : mxB m A (fun i => u.testBit i) a = true
    · have hc3 := ct_rm (f := fun i => u.testBit i) ha h1
      rw [if_pos hm, if_pos hm, ct_cong (g := fun x => u.testBit x && !decide (x = a)) (fun i _ => xr_k h1 i), show ct (fun x => u.testBit x && !decide (x = a)) m = c by omega, eF_c _ (fun x _ => xr_k h1 x)]
    · rw [if_neg hm, if_neg hm]
theorem fwV_0 {m u : Nat} {A : Nat → Int32} : fwV m A 0 0 u = if u = 0 then 1 else 0 := by
  rw [fwV]
  by_cases e : u = 0
  · rw [if_pos e, if_pos e]
  · rw [if_neg e, if_neg e]
    exact sumN_z (fun a ha => by rw [fwW, if_neg (by simp)])
theorem fwV_n {m t u : Nat} {A : Nat → Int32} : fwV m A t m u = fwV m A (t + 1) 0 u := by
  rw [fwV, fwV]
  congr 1
  refine sumN_c (fun a ha => ?_)
  rw [fwW, fwW]
  have : (decide (u ^^^ 2 ^ a < t) || (decide (u ^^^ 2 ^ a = t) && decide (a < m))) = (decide (u ^^^ 2 ^ a < t + 1) || (decide (u ^^^ 2 ^ a = t + 1) && decide (a < 0))) := by
    rw [Bool.eq_iff_iff]
    simp
    omega
  rw [this]
theorem fwV_z {m t i u : Nat} {A : Nat → Int32} (h0 : exV m A t = 0) : fwV m A t i u = fwV m A (t + 1) 0 u := by
  rw [fwV, fwV]
  congr 1
  refine sumN_c (fun a ha => ?_)
  rw [fwW, fwW]
  by_cases e : u ^^^ 2 ^ a = t
  · rw [e, h0]; simp
  · have : (decide (u ^^^ 2 ^ a < t) || (decide (u ^^^ 2 ^ a = t) && decide (a < i))) = (decide (u ^^^ 2 ^ a < t + 1) || (decide (u ^^^ 2 ^ a = t + 1) && decide (a < 0))) := by
      rw [Bool.eq_iff_iff]
      simp [e]
      omega
    rw [this]
theorem fwV_s {m t i u : Nat} {A : Nat → Int32} (h : t.testBit i = true ∨ ndB m A i t = false) : fwV m A t (i + 1) u = fwV m A t i u := by
  rw [fwV, fwV]
  congr 1
  refine sumN_c (fun a ha => ?_)
  rw [fwW, fwW]
  by_cases e : a = i
  · subst e
    by_cases e2 : u ^^^ 2 ^ a = t
    · rcases h with h | h
      · have : u.testBit a = false := by
          have := xr_b (u := u) (a := a) (i := a)
          rw [e2, h, decide_eq_true rfl] at this
          cases hh : u.testBit a
          · rfl
          · rw [hh] at this; cases this
        rw [this]; rfl
      · rw [e2, h]; simp
    · have : (decide (u ^^^ 2 ^ a < t) || (decide (u ^^^ 2 ^ a = t) && decide (a < a + 1))) = (decide (u ^^^ 2 ^ a < t) || (decide (u ^^^ 2 ^ a = t) && decide (a < a))) := by
        rw [decide_eq_false e2]; rfl
      rw [this]
  · have : decide (a < i + 1) = decide (a < i) := by
      rw [Bool.eq_iff_iff]; simp; omega
    rw [this]
theorem sumN_up {f g : Nat → Int64} {i : Nat} {d : Int64} : ∀ {n : Nat}, i < n → (∀ a, a < n → a ≠ i → g a = f a) → g i = f i + d → sumN g n = sumN f n + d
  | 0, h, _, _ => absurd h (Nat.not_lt_zero _)
  | n + 1, h, h1, h2 => by
    rw [sumN, sumN]
    by_cases e : i = n
    · subst e
      rw [h2, sumN_c (fun a ha => h1 a (by omega) (by omega)), Int64.add_assoc]
    · rw [h1 n (by omega) (fun q => e q.symm), sumN_up (n := n) (by omega) (fun a ha => h1 a (by omega)) h2, Int64.add_assoc, Int64.add_assoc, Int64.add_comm d]
theorem fwV_a {m t i u : Nat} {A : Nat → Int32} (hi : i < m) (h1 : t.testBit i = false) (h2 : ndB m A i t = true) : fwV m A t (i + 1) u = if u = t ^^^ 2 ^ i then fwV m A t i u + exV m A t else fwV m A t i u := by
  have hback : (t ^^^ 2 ^ i) ^^^ 2 ^ i = t := by rw [Nat.xor_assoc, Nat.xor_self, Nat.xor_zero]
  have hu1 : (t ^^^ 2 ^ i).testBit i = true := by rw [xr_b, h1, decide_eq_true rfl]; rfl
  by_cases e : u = t ^^^ 2 ^ i
  · rw [if_pos e]
    subst e
    have hne : t ^^^ 2 ^ i ≠ 0 := fun q => by rw [q, Nat.zero_testBit] at hu1; cases hu1
    rw [fwV, fwV, if_neg hne, if_neg hne]
    refine sumN_up hi (fun a ha hai => ?_) ?_
    · rw [fwW, fwW]
      have : decide (a < i + 1) = decide (a < i) := by
        rw [Bool.eq_iff_iff]; simp; omega
      rw [this]
    · rw [fwW, fwW, hback, hu1, h2]
      simp
  · rw [if_neg e, fwV, fwV]
    congr 1
    refine sumN_c (fun a ha => ?_)
    rw [fwW, fwW]
    by_cases e2 : a = i
    · subst e2
      have e3 : u ^^^ 2 ^ a ≠ t := fun q => e (by rw [← q, Nat.xor_assoc, Nat.xor_self, Nat.xor_zero])
      rw [decide_eq_false e3]; rfl
    · have : decide (a < i + 1) = decide (a < i) := by
        rw [Bool.eq_iff_iff]; simp; omega
      rw [this]
theorem xr_or {t i : Nat} (h : t.testBit i = false) (ht : t < 65536) (hi : i < 16) : nI t ||| ((1 : Int32) <<< (nI i &&& 31)) = nI (t ^^^ 2 ^ i) := b_ext fun j hj => by
  rw [b_or, b_one i (by omega) hj, bt_nI _ j hj, bt_nI _ j hj, xr_b]
  by_cases e : j = i
  · subst e; rw [h, decide_eq_true rfl]; rfl
  · rw [decide_eq_false e, decide_eq_false (fun q => e q.symm)]; simp
theorem xr_in {t i m : Nat} (ht : t < 2 ^ m) (hi : i < m) : t ^^^ 2 ^ i < 2 ^ m := Nat.xor_lt_two_pow ht (Nat.pow_lt_pow_right (by decide) hi)
theorem exV_all {m : Nat} {A : Nat → Int32} : exV m A (2 ^ m - 1) = eF m A m (fun _ => true) := by
  have hall : ∀ i, i < m → (2 ^ m - 1).testBit i = true := fun i hi => by rw [Nat.testBit_two_pow_sub_one]; exact decide_eq_true hi
  rw [exV, if_pos (dsM_t.mpr (fun a x ha hx _ _ => hall x hx)), ct_cong hall, ct_all (n := m), eF_c m (T := fun _ => true) (fun x hx => hall x hx)]
theorem eF_par {n : Nat} {A : Nat → Int32} {s : Int32} (h16 : n ≤ 16) : eF n A (ct (bt s) n) (bt s) = eF (ct (bt s) n) (parA n A s) (ct (bt s) n) (fun _ => true) := by
  have hc := ct_le (bt s) n
  refine eF_iso (f := ct (bt s)) (g := elN n s) _ _ _ (fun x hx hb => ?_) (fun y hy _ => ?_) (fun x y hx hy hbx hby => ?_)
  · have := ct_lt hx hb
    exact ⟨by omega, rfl, elN_ct hx hb⟩
  · exact elN_in hy
  · have h1 := ct_lt hx hbx
    have h2 := ct_lt hy hby
    rw [par_b h16 (by omega) (by omega), decide_eq_true (show ct (bt s) y < ct (bt s) n by omega), Bool.true_and, elN_ct hx hbx, elN_ct hy hby]
theorem sumC_px {f : Nat → Int64} {x : Nat} : ∀ {n : Nat}, x < n → sumC (fun i => decide (i = x)) f n = f x
  | 0, h => absurd h (Nat.not_lt_zero _)
  | n + 1, h => by
    rw [sumC]
    by_cases e : x = n
    · subst e
      rw [sumC_n (fun i hi => decide_eq_false (by omega)), if_pos (decide_eq_true rfl), Int64.zero_add]
    · rw [if_neg (by rw [decide_eq_false (fun q => e q.symm)]; decide)]
      exact sumC_px (by omega)
theorem eF_1 {n : Nat} {A : Nat → Int32} {S : Nat → Bool} (hP : PO n A) (hc : ct S n = 1) : eF n A 1 S = 1 := by
  obtain ⟨x, hx, hb, h0⟩ := ct_sur (f := S) (i := 0) (n := n) (by omega)
  have huq : ∀ i, i < n → S i = true → i = x := fun i hi q => by
    apply Classical.byContradiction
    intro hne
    have h1 := ct_rm hx hb
    have h2 := ct_lt (f := fun y => S y && !decide (y = x)) hi (by rw [q, decide_eq_false hne]; rfl)
    omega
  rw [eF]
  refine (sumC_c (c' := fun i => decide (i = x)) (f' := fun _ => (1 : Int64)) (fun i hi => ⟨?_, fun _ => rfl⟩)).trans (sumC_px hx)
  rw [Bool.eq_iff_iff, mxB_t, decide_eq_true_eq]
  constructor
  · rintro ⟨h1, _⟩
    exact huq i hi h1
  · intro e
    subst e
    exact ⟨hb, fun b hb2 q => by rw [huq b hb2 q]; exact hP.2.1 i hi⟩
