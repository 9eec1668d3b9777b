/-! MOEBIUS VALUES -/
def upS (A : Nat → Int32) (a : Nat) : Int32 := A a ||| ((1 : Int32) <<< (nI a &&& 31))
def dnS (n : Nat) (A : Nat → Int32) (b : Nat) : Int32 := bn n A b ||| ((1 : Int32) <<< (nI b &&& 31))
def isMu (n : Nat) (A : Nat → Int32) (a : Nat) (f : Nat → Int64) : Prop := ∀ x, x < n → f x = if x = a then 1 else -(sumS f (upS A a &&& bn n A x) n)
def isNu (n : Nat) (A : Nat → Int32) (b : Nat) (f : Nat → Int64) : Prop := ∀ x, x < n → f x = if x = b then 1 else -(sumS f (dnS n A b &&& A x) n)
def muF (n : Nat) (A : Nat → Int32) (a : Nat) : Nat → Nat → Int64
  | 0, _ => 0
  | k + 1, x => if x = a then 1 else -(sumS (muF n A a k) (upS A a &&& bn n A x) n)
def nuF (n : Nat) (A : Nat → Int32) (b : Nat) : Nat → Nat → Int64
  | 0, _ => 0
  | k + 1, x => if x = b then 1 else -(sumS (nuF n A b k) (dnS n A b &&& A x) n)
def mu (n : Nat) (A : Nat → Int32) (a x : Nat) : Int64 := muF n A a n x
def nu (n : Nat) (A : Nat → Int32) (b x : Nat) : Int64 := nuF n A b n x
theorem bn_lt {n : Nat} {A : Nat → Int32} {s : Int32} (hP : PO n A) (h16 : n ≤ 16) {x y : Nat} (hx : x < n) (hy : y < n) (h : bt (s &&& bn n A x) y = true) : key n A y < key n A x := by
  rw [b_and, Bool.and_eq_true, bn_bt (by omega) (by omega)] at h
  exact key_up hP hy hx (by simpa [hy] using h.2)
theorem up_lt {n : Nat} {A : Nat → Int32} {s : Int32} (hP : PO n A) {x y : Nat} (hx : x < n) (hy : y < n) (h : bt (s &&& A x) y = true) : key n A x < key n A y := by
  rw [b_and, Bool.and_eq_true] at h
  exact key_up hP hx hy h.2
theorem muF_st {n : Nat} {A : Nat → Int32} {a : Nat} (hP : PO n A) (h16 : n ≤ 16) : ∀ (m x k k' : Nat), x < n → key n A x ≤ m → key n A x < k → key n A x < k' → muF n A a k x = muF n A a k' x := by
  intro m
  induction m with
  | zero =>
    intro x k k' hx h0 hk hk'
    obtain ⟨k, rfl⟩ : ∃ j, k = j + 1 := ⟨k - 1, by omega⟩
    obtain ⟨k', rfl⟩ : ∃ j, k' = j + 1 := ⟨k' - 1, by omega⟩
    rw [muF, muF]
    by_cases e : x = a
    · rw [if_pos e, if_pos e]
    · rw [if_neg e, if_neg e, sumS_c (fun y hy hb => absurd (bn_lt hP h16 hx hy hb) (by omega))]
  | succ m ih =>
    intro x k k' hx h0 hk hk'
    obtain ⟨k, rfl⟩ : ∃ j, k = j + 1 := ⟨k - 1, by omega⟩
    obtain ⟨k', rfl⟩ : ∃ j, k' = j + 1 := ⟨k' - 1, by omega⟩
    rw [muF, muF]
    by_cases e : x = a
    · rw [if_pos e, if_pos e]
    · rw [if_neg e, if_neg e, sumS_c (fun y hy hb => by
        have := bn_lt hP h16 hx hy hb
        exact ih y k k' hy (by omega) (by omega) (by omega))]
theorem mu_is {n : Nat} {A : Nat → Int32} {a : Nat} (hP : PO n A) (h16 : n ≤ 16) : isMu n A a (mu n A a) := by
  intro x hx
  have hk := key_lt hP hx
  unfold mu
  obtain ⟨k, rfl⟩ : ∃ j, n = j + 1 := ⟨n - 1, by omega⟩
  conv => lhs; rw [muF]
  by_cases e : x = a
  · rw [if_pos e, if_pos e]
  · rw [if_neg e, if_neg e, sumS_c (fun y hy hb => by
      have := bn_lt hP h16 hx hy hb
      exact muF_st hP h16 _ y k (k + 1) hy (Nat.le_refl _) (by omega) (by omega))]
theorem mu_un {n : Nat} {A : Nat → Int32} {a : Nat} {f g : Nat → Int64} (hP : PO n A) (h16 : n ≤ 16) (hf : isMu n A a f) (hg : isMu n A a g) : ∀ (m x : Nat), x < n → key n A x ≤ m → f x = g x := by
  intro m
  induction m with
  | zero =>
    intro x hx h0
    rw [hf x hx, hg x hx]
    by_cases e : x = a
    · rw [if_pos e, if_pos e]
    · rw [if_neg e, if_neg e, sumS_c (fun y hy hb => absurd (bn_lt hP h16 hx hy hb) (by omega))]
  | succ m ih =>
    intro x hx h0
    rw [hf x hx, hg x hx]
    by_cases e : x = a
    · rw [if_pos e, if_pos e]
    · rw [if_neg e, if_neg e, sumS_c (fun y hy hb => by
        have := bn_lt hP h16 hx hy hb
        exact ih y hy (by omega))]
theorem nuF_st {n : Nat} {A : Nat → Int32} {b : Nat} (hP : PO n A) : ∀ (m x k k' : Nat), x < n → n - key n A x ≤ m + 1 → n - key n A x ≤ k → n - key n A x ≤ k' → nuF n A b k x = nuF n A b k' x := by
  intro m
  induction m with
  | zero =>
    intro x k k' hx h0 hk hk'
    have hkx := key_lt hP hx
    obtain ⟨k, rfl⟩ : ∃ j, k = j + 1 := ⟨k - 1, by omega⟩
    obtain ⟨k', rfl⟩ : ∃ j, k' = j + 1 := ⟨k' - 1, by omega⟩
    rw [nuF, nuF]
    by_cases e : x = b
    · rw [if_pos e, if_pos e]
    · rw [if_neg e, if_neg e, sumS_c (fun y hy hb => by
        have h1 := up_lt hP hx hy hb
        have h2 := key_lt hP hy
        omega)]
  | succ m ih =>
    intro x k k' hx h0 hk hk'
    have hkx := key_lt hP hx
    obtain ⟨k, rfl⟩ : ∃ j, k = j + 1 := ⟨k - 1, by omega⟩
    obtain ⟨k', rfl⟩ : ∃ j, k' = j + 1 := ⟨k' - 1, by omega⟩
    rw [nuF, nuF]
    by_cases e : x = b
    · rw [if_pos e, if_pos e]
    · rw [if_neg e, if_neg e, sumS_c (fun y hy hb => by
        have := up_lt hP hx hy hb
        exact ih y k k' hy (by omega) (by omega) (by omega))]
theorem nu_is {n : Nat} {A : Nat → Int32} {b : Nat} (hP : PO n A) : isNu n A b (nu n A b) := by
  intro x hx
  have hk := key_lt hP hx
  unfold nu
  obtain ⟨k, rfl⟩ : ∃ j, n = j + 1 := ⟨n - 1, by omega⟩
  conv => lhs; rw [nuF]
  by_cases e : x = b
  · rw [if_pos e, if_pos e]
  · rw [if_neg e, if_neg e, sumS_c (fun y hy hb => by
      have := up_lt hP hx hy hb
      exact nuF_st hP (k + 1) y k (k + 1) hy (by omega) (by omega) (by omega))]
theorem nu_un {n : Nat} {A : Nat → Int32} {b : Nat} {f g : Nat → Int64} (hP : PO n A) (hf : isNu n A b f) (hg : isNu n A b g) : ∀ (m x : Nat), x < n → n - key n A x ≤ m + 1 → f x = g x := by
  intro m
  induction m with
  | zero =>
    intro x hx h0
    rw [hf x hx, hg x hx]
    by_cases e : x = b
    · rw [if_pos e, if_pos e]
    · rw [if_neg e, if_neg e, sumS_c (fun y hy hb => by
        have h1 := up_lt hP hx hy hb
        have h2 := key_lt hP hy
        omega)]
  | succ m ih =>
    intro x hx h0
    rw [hf x hx, hg x hx]
    by_cases e : x = b
    · rw [if_pos e, if_pos e]
    · rw [if_neg e, if_neg e, sumS_c (fun y hy hb => by
        have := up_lt hP hx hy hb
        exact ih y hy (by omega))]
/-- what an order's object holds: its size, its bits, what is derived -/
def OI (I : amI) (o n : Nat) (A : Nat → Int32) : Prop := I o 0 = nI n ∧ 1 ≤ n ∧ n ≤ 16 ∧ (∀ x, x < n → I (o + 1) x = A x) ∧ (∀ x, n ≤ x → x < 16 → I (o + 1) x = 0) ∧ PO n A ∧ Der I o n A
theorem OI.sz {I : amI} {o n : Nat} {A : Nat → Int32} (h : OI I o n A) : szOk I o := ⟨n, h.2.1, h.2.2.1, h.1⟩
theorem OI.row {I : amI} {o n : Nat} {A : Nat → Int32} (h : OI I o n A) : rowOk I o := by
  intro i hi
  rw [sz_eq h.1 h.2.2.1] at hi ⊢
  obtain ⟨x, hx, e, -⟩ := row_of h.2.2.1 h.2.2.2.2.2.2.2.2.2.1 i hi
  exact ⟨x, hx, e⟩
theorem OI.has {I : amI} {o n : Nat} {A : Nat → Int32} (h : OI I o n A) {a : Nat} (ha : a < n) : q_has I o (nI a) = true := by
  have := h.2.2.1
  rw [q_has, h.1, decide_eq_true (nI_pos' (by omega)), decide_eq_true (nI_lt ha (by omega))]
  rfl
theorem OI.from {I : amI} {o n : Nat} {A : Nat → Int32} (h : OI I o n A) {a : Nat} (ha : a < n) : q_from I o (nI a) = upS A a := by
  have := h.2.2.1
  rw [q_from, if_pos (h.has ha), cl_nI (by omega), h.2.2.2.1 a ha, upS]
theorem OI.upTo {I : amI} {o n : Nat} {A : Nat → Int32} (h : OI I o n A) {a : Nat} (ha : a < n) : q_upTo I o (nI a) = dnS n A a := by
  have := h.2.2.1
  rw [q_upTo, if_pos (h.has ha), cl_nI (by omega), h.2.2.2.2.2.2.1 a ha, dnS]
theorem mf_sq {I : amI} {o n : Nat} {A : Nat → Int32} (h : OI I o n A) {a : Nat} (ha : a < n) {f : Nat → Int64} : ∀ i, i ≤ n → q_mf I o (nI a) f i = sq (fun i => (I (o + 6) i).toNatClampNeg) (fun g x => if x = a then 1 else -(sumS g (upS A a &&& I (o + 2) x) n)) f i
  | 0, _ => rfl
  | i + 1, hi => by
    have h16 := h.2.2.1
    obtain ⟨x, hx, e⟩ := h.row i (by rw [sz_eq h.1 h16]; omega)
    rw [sz_eq h.1 h16] at hx
    rw [q_mf, sq, mf_sq h ha i (by omega), h.from ha, sz_eq h.1 h16, e, cl_nI (by omega)]
    have hc : (nI x = nI a) = (x = a) := by rw [nI_eq (by omega) (by omega)]
    simp only [hc]
    rfl
theorem mf_mu {I : amI} {o n : Nat} {A : Nat → Int32} (h : OI I o n A) {a : Nat} (ha : a < n) {f : Nat → Int64} {x : Nat} (hx : x < n) : q_mf I o (nI a) f n x = mu n A a x := by
  have h16 := h.2.2.1
  have hP := h.2.2.2.2.2.1
  have hD := h.2.2.2.2.2.2
  have k := row_fix h16 hP hD.2.2.2.1 (F := fun g x => if x = a then 1 else -(sumS g (upS A a &&& I (o + 2) x) n)) (f := f) (fun g g' x hx hh => by
    show (if x = a then (1 : Int64) else _) = if x = a then 1 else _
    rw [sumS_c (fun y hy hb => hh y hy (by
      rw [hD.1 x hx, b_and, Bool.and_eq_true, bn_bt (by omega) (by omega)] at hb
      simpa [hy] using hb.2))])
  refine mu_un hP h16 (f := q_mf I o (nI a) f n) (g := mu n A a) (fun y hy => ?_) (mu_is hP h16) _ x hx (Nat.le_refl _)
  rw [mf_sq h ha n (Nat.le_refl _)]
  conv => lhs; rw [k y hy]
  show (if y = a then (1 : Int64) else _) = if y = a then 1 else _
  rw [hD.1 y hy]
theorem mt_sq {I : amI} {o n : Nat} {A : Nat → Int32} (h : OI I o n A) {b : Nat} (hb : b < n) {f : Nat → Int64} : ∀ k, k ≤ n → q_mtk I o (nI b) f n k = sq (fun k => (I (o + 6) (n - 1 - k)).toNatClampNeg) (fun g x => if x = b then 1 else -(sumS g (dnS n A b &&& I (o + 1) x) n)) f k
  | 0, _ => rfl
  | k + 1, hk => by
    have h16 := h.2.2.1
    obtain ⟨x, hx, e⟩ := h.row (n - 1 - k) (by rw [sz_eq h.1 h16]; omega)
    rw [sz_eq h.1 h16] at hx
    rw [q_mtk, sq, mt_sq h hb k (by omega), h.upTo hb, sz_eq h.1 h16, e, cl_nI (by omega)]
    have hc : (nI x = nI b) = (x = b) := by rw [nI_eq (by omega) (by omega)]
    simp only [hc]
    rfl
theorem mt_nu {I : amI} {o n : Nat} {A : Nat → Int32} (h : OI I o n A) {b : Nat} (hb : b < n) {f : Nat → Int64} {x : Nat} (hx : x < n) : q_mt I o (nI b) f n x = nu n A b x := by
  have h16 := h.2.2.1
  have hP := h.2.2.2.2.2.1
  have hD := h.2.2.2.2.2.2
  have hr : ∀ y, y < n → (I (o + 6) (n - 1 - (n - 1 - pos n A y))).toNatClampNeg = y := fun y hy => by
    have := pos_lt (A := A) hy
    rw [show n - 1 - (n - 1 - pos n A y) = pos n A y by omega, hD.2.2.2.1 y hy]
    exact cl_nI (by omega)
  have hrow : ∀ i, i < n → (I (o + 6) (n - 1 - i)).toNatClampNeg < n ∧ pos n A (I (o + 6) (n - 1 - i)).toNatClampNeg = n - 1 - i := by
    intro i hi
    obtain ⟨y, hy, e, ep⟩ := row_of h16 hD.2.2.2.1 (n - 1 - i) (by omega)
    rw [e, cl_nI (by omega)]
    exact ⟨hy, ep⟩
  refine nu_un hP (f := q_mt I o (nI b) f n) (g := nu n A b) (fun y hy => ?_) (nu_is hP) (n - key n A x) x hx (by omega)
  rw [q_mt, mt_sq h hb n (Nat.le_refl _)]
  have hpy := pos_lt (A := A) hy
  have k := sq_fix (row := fun k => (I (o + 6) (n - 1 - k)).toNatClampNeg) (F := fun g x => if x = b then 1 else -(sumS g (dnS n A b &&& I (o + 1) x) n)) (f := f) (n := n) (fun i j hi hj e => by
      have h1 := (hrow i hi).2
      have h2 := (hrow j hj).2
      rw [e] at h1
      omega) (fun g g' i hi hh => by
      have h1 := hrow i hi
      have e := sumS_c (f := g) (g := g') (s := dnS n A b &&& I (o + 1) (I (o + 6) (n - 1 - i)).toNatClampNeg) (n := n) (fun w hw hbw => by
        rw [h.2.2.2.1 _ h1.1] at hbw
        have h2 := pos_up (A := A) h1.1 (up_lt hP h1.1 hw hbw)
        have h4 := pos_lt (A := A) hw
        have h3 := hh (n - 1 - pos n A w) (by rw [h1.2] at h2; omega)
        rwa [hr w hw] at h3)
      show (if _ = b then (1 : Int64) else _) = if _ = b then 1 else _
      rw [e]) (i := n - 1 - pos n A y) (by omega)
  rw [hr y hy] at k
  conv => lhs; rw [k]
  show (if y = b then (1 : Int64) else _) = if y = b then 1 else _
  rw [h.2.2.2.1 y hy]
