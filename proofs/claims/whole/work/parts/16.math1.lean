/-! ORDERS, by the strict bits above each element -/
theorem nx_and (a b : Nat) : nI a &&& nI b = nI (a &&& b) := by
  apply Int32.toBitVec_inj.1
  show BitVec.ofNat 32 a &&& BitVec.ofNat 32 b = BitVec.ofNat 32 (a &&& b)
  apply BitVec.eq_of_getLsbD_eq
  intro i hi
  simp [hi]
theorem nx_shr {k : Nat} (h : k < 2 ^ 32) (j : Nat) (hj : j < 32) : ((nI k).toUInt32 >>> ((nI j).toUInt32 &&& Int32.toUInt32 31)).toInt32 = nI (Nat.shiftRight k j) := by
  rw [pk_ushrN h (nI j) j (s_u j hj)]
  show nI (k / 2 ^ j) = nI (k >>> j)
  rw [Nat.shiftRight_eq_div_pow]
theorem bc_nI {k : Nat} (h : k < 65536) : q_bc (nI k) = nI (bcN k) := by
  have sh : ∀ m j, Nat.shiftRight m j ≤ m := fun m j => by show m >>> j ≤ m; rw [Nat.shiftRight_eq_div_pow]; exact Nat.div_le_self _ _
  have an : ∀ m j, Nat.land m j ≤ m := fun m j => Nat.and_le_left
  unfold q_bc bcN
  have e1 : nI k - (((nI k).toUInt32 >>> ((1 : Int32).toUInt32 &&& Int32.toUInt32 31)).toInt32 &&& 1431655765) = nI (Nat.sub k (Nat.land (Nat.shiftRight k 1) 1431655765)) := by
    rw [show (1 : Int32) = nI 1 from rfl, nx_shr (by omega) 1 (by decide), show (1431655765 : Int32) = nI 1431655765 from rfl, nx_and]
    exact pk_sub (Nat.le_trans (an _ _) (sh _ _))
  rw [e1]
  have ha : Nat.sub k (Nat.land (Nat.shiftRight k 1) 1431655765) ≤ k := Nat.sub_le _ _
  generalize Nat.sub k (Nat.land (Nat.shiftRight k 1) 1431655765) = a at ha
  have e2 : (nI a &&& 858993459) + (((nI a).toUInt32 >>> ((2 : Int32).toUInt32 &&& Int32.toUInt32 31)).toInt32 &&& 858993459) = nI (Nat.add (Nat.land a 858993459) (Nat.land (Nat.shiftRight a 2) 858993459)) := by
    rw [show (2 : Int32) = nI 2 from rfl, nx_shr (by omega) 2 (by decide), show (858993459 : Int32) = nI 858993459 from rfl, nx_and, nx_and, nI_add]
    rfl
  dsimp only
  rw [e2]
  have hb : Nat.add (Nat.land a 858993459) (Nat.land (Nat.shiftRight a 2) 858993459) ≤ a + a := Nat.add_le_add (an _ _) (Nat.le_trans (an _ _) (sh _ _))
  generalize Nat.add (Nat.land a 858993459) (Nat.land (Nat.shiftRight a 2) 858993459) = b at hb
  have e3 : (nI b + ((nI b).toUInt32 >>> ((4 : Int32).toUInt32 &&& Int32.toUInt32 31)).toInt32) &&& 252645135 = nI (Nat.land (Nat.add b (Nat.shiftRight b 4)) 252645135) := by
    rw [show (4 : Int32) = nI 4 from rfl, nx_shr (by omega) 4 (by decide), show (252645135 : Int32) = nI 252645135 from rfl, nI_add, nx_and]
    rfl
  rw [e3]
  have hc : Nat.land (Nat.add b (Nat.shiftRight b 4)) 252645135 ≤ b + b := Nat.le_trans (an _ _) (Nat.add_le_add (Nat.le_refl _) (sh _ _))
  generalize Nat.land (Nat.add b (Nat.shiftRight b 4)) 252645135 = c at hc
  have e4 : nI c + ((nI c).toUInt32 >>> ((8 : Int32).toUInt32 &&& Int32.toUInt32 31)).toInt32 = nI (Nat.add c (Nat.shiftRight c 8)) := by
    rw [show (8 : Int32) = nI 8 from rfl, nx_shr (by omega) 8 (by decide), nI_add]
    rfl
  rw [e4]
  have hd : Nat.add c (Nat.shiftRight c 8) ≤ c + c := Nat.add_le_add (Nat.le_refl _) (sh _ _)
  generalize Nat.add c (Nat.shiftRight c 8) = d at hd
  rw [show (16 : Int32) = nI 16 from rfl, nx_shr (by omega) 16 (by decide), show (63 : Int32) = nI 63 from rfl, nI_add, nx_and]
  rfl
theorem ct_lim {f : Nat → Bool} {n : Nat} : ∀ {m : Nat}, n ≤ m → ct (fun i => decide (i < n) && f i) m = ct f n
  | 0, h => by rw [show n = 0 by omega]; rfl
  | m + 1, h => by
    rcases Nat.eq_or_lt_of_le h with e | e
    · subst e
      exact ct_cong fun i hi => by simp [hi]
    · rw [ct, ct_lim (show n ≤ m by omega)]
      simp [show ¬ m < n by omega]
/-- the size of a set, as bitCount gives it -/
theorem bc_mk {f : Nat → Bool} {n : Nat} (hn : n ≤ 16) : q_bc (mkset f n) = nI (ct f n) := by
  obtain ⟨k, hk, e, hb⟩ := set16 (x := mkset f n) (fun i h1 h2 => by rw [b_mk f n (by omega) i h2]; simp [show ¬ i < n by omega])
  rw [e, bc_nI hk, bc_pc hk, ← ct_tb]
  congr 1
  rw [← ct_lim hn]
  exact ct_cong fun i hi => by rw [hb i (by omega), b_mk f n (by omega) i (by omega)]
theorem ct_add (f g : Nat → Bool) : ∀ {n : Nat}, (∀ i, i < n → ¬ (f i = true ∧ g i = true)) → ct (fun i => f i || g i) n = ct f n + ct g n
  | 0, _ => rfl
  | n + 1, h => by
    have := h n (by omega)
    rw [ct, ct, ct, ct_add f g (fun i hi => h i (by omega))]
    cases hf : f n <;> cases hg : g n <;> simp_all <;> omega
theorem ct_mono (f : Nat → Bool) {m : Nat} : ∀ {n : Nat}, m ≤ n → ct f m ≤ ct f n
  | 0, h => by rw [show m = 0 by omega]; exact Nat.le_refl _
  | n + 1, h => by
    rcases Nat.eq_or_lt_of_le h with e | e
    · rw [e]; exact Nat.le_refl _
    · rw [ct]
      exact Nat.le_trans (ct_mono f (by omega)) (Nat.le_add_right _ _)
theorem ct_lt {f : Nat → Bool} {x n : Nat} (hx : x < n) (h : f x = true) : ct f x + 1 ≤ ct f n := by
  have := ct_mono f (show x + 1 ≤ n from hx)
  rw [ct, if_pos h] at this
  exact this
theorem ct_sub {f g : Nat → Bool} : ∀ {n : Nat}, (∀ i, i < n → f i = true → g i = true) → ct f n ≤ ct g n
  | 0, _ => Nat.le_refl _
  | n + 1, h => by
    have := ct_sub (n := n) (fun i hi => h i (by omega))
    rw [ct, ct]
    by_cases hf : f n = true
    · rw [if_pos hf, if_pos (h n (by omega) hf)]; omega
    · rw [if_neg hf]; omega
theorem ct_ssub {f g : Nat → Bool} {x : Nat} : ∀ {n : Nat}, (∀ i, i < n → f i = true → g i = true) → x < n → f x = false → g x = true → ct f n < ct g n
  | 0, _, hx, _, _ => absurd hx (Nat.not_lt_zero _)
  | n + 1, h, hx, h1, h2 => by
    rw [ct, ct]
    by_cases e : x = n
    · subst e
      have := ct_sub (n := x) (fun i hi => h i (by omega))
      rw [h1, if_pos h2]; simp; omega
    · have := ct_ssub (n := n) (fun i hi => h i (by omega)) (by omega) h1 h2
      by_cases hf : f n = true
      · rw [if_pos hf, if_pos (h n (by omega) hf)]; omega
      · rw [if_neg hf]; omega
/-- a strict order on the numbers below n: bits above each -/
def PO (n : Nat) (A : Nat → Int32) : Prop :=
  (∀ x, x < n → ∀ i, i < 32 → bt (A x) i = true → i < n) ∧ (∀ x, x < n → bt (A x) x = false) ∧ ∀ x y w, x < n → y < n → w < n → bt (A x) y = true → bt (A y) w = true → bt (A x) w = true
def bn (n : Nat) (A : Nat → Int32) (x : Nat) : Int32 := mkset (fun w => bt (A w) x) n
def key (n : Nat) (A : Nat → Int32) (x : Nat) : Nat := ct (fun w => bt (A w) x) n
def Fc (n : Nat) (A : Nat → Int32) (m x : Nat) : Nat := ct (fun y => decide (key n A y < m)) n + ct (fun y => decide (key n A y = m)) x
def pos (n : Nat) (A : Nat → Int32) (x : Nat) : Nat := Fc n A (key n A x) x
def cv (n : Nat) (A : Nat → Int32) (x y : Nat) : Bool := bt (A x) y && decide (A x &&& bn n A y = 0)
theorem key_lt {n : Nat} {A : Nat → Int32} (h : PO n A) {x : Nat} (hx : x < n) : key n A x < n := by
  have h1 := ct_ssub (f := fun w => bt (A w) x) (g := fun _ => true) (n := n) (fun _ _ _ => rfl) hx (h.2.1 x hx) rfl
  exact Nat.lt_of_lt_of_le h1 (ct_le _ _)
theorem key_up {n : Nat} {A : Nat → Int32} (h : PO n A) {x y : Nat} (hx : x < n) (hy : y < n) (hb : bt (A x) y = true) : key n A x < key n A y :=
  ct_ssub (fun w hw hwx => h.2.2 w x y hw hx hy hwx hb) hx (h.2.1 x hx) hb
theorem Fc_s {n : Nat} {A : Nat → Int32} {m : Nat} : Fc n A m n = Fc n A (m + 1) 0 := by
  unfold Fc
  rw [← ct_add _ _ (fun i _ h => by simp at h; omega)]
  show _ = _ + 0
  rw [Nat.add_zero]
  apply ct_cong
  intro i _
  by_cases h : key n A i < m + 1
  · by_cases h2 : key n A i < m
    · simp [h, h2]
    · have h3 : key n A i = m := by omega
      simp [h3]
  · simp [h, show ¬ key n A i < m by omega, show ¬ key n A i = m by omega]
theorem Fc_y {n : Nat} {A : Nat → Int32} {x : Nat} (m : Nat) (hk : key n A x = m) : Fc n A m (x + 1) = Fc n A m x + 1 := by
  unfold Fc
  rw [ct, if_pos (by simp [hk])]
  omega
theorem Fc_no {n : Nat} {A : Nat → Int32} {x : Nat} (m : Nat) (hk : ¬ key n A x = m) : Fc n A m (x + 1) = Fc n A m x := by
  unfold Fc
  rw [ct, if_neg (by simp [hk]), Nat.add_zero]
theorem Fc_le {n : Nat} {A : Nat → Int32} {m x : Nat} (hx : x ≤ n) : Fc n A m x ≤ Fc n A m n := Nat.add_le_add_left (ct_mono _ hx) _
theorem Fc_n {n : Nat} {A : Nat → Int32} {m : Nat} : Fc n A m 0 ≤ n := by
  unfold Fc
  show ct _ n + 0 ≤ n
  exact ct_le _ _
theorem Fc_m {n : Nat} {A : Nat → Int32} {m m' : Nat} (h : m ≤ m') : Fc n A m 0 ≤ Fc n A m' 0 := by
  unfold Fc
  show ct _ n + 0 ≤ ct _ n + 0
  exact Nat.add_le_add_right (ct_sub fun i _ h1 => by simp at h1 ⊢; omega) _
theorem pos_lt1 {n : Nat} {A : Nat → Int32} {x : Nat} (hx : x < n) : pos n A x < Fc n A (key n A x + 1) 0 := by
  rw [← Fc_s]
  have := Fc_le (A := A) (m := key n A x) (show x + 1 ≤ n from hx)
  rw [Fc_y _ rfl] at this
  exact this
theorem pos_lt {n : Nat} {A : Nat → Int32} {x : Nat} (hx : x < n) : pos n A x < n := Nat.lt_of_lt_of_le (pos_lt1 hx) Fc_n
theorem pos_up {n : Nat} {A : Nat → Int32} {x y : Nat} (hx : x < n) (hk : key n A x < key n A y) : pos n A x < pos n A y :=
  Nat.lt_of_lt_of_le (pos_lt1 hx) (Nat.le_trans (Fc_m hk) (Nat.add_le_add_left (Nat.zero_le _) _))
theorem pos_inj {n : Nat} {A : Nat → Int32} {x y : Nat} (hx : x < n) (hy : y < n) (h : pos n A x = pos n A y) : x = y := by
  rcases Nat.lt_trichotomy (key n A x) (key n A y) with g | g | g
  · exact absurd h (Nat.ne_of_lt (pos_up hx g))
  · unfold pos at h
    rw [g] at h
    have hc : ct (fun w => decide (key n A w = key n A y)) x = ct (fun w => decide (key n A w = key n A y)) y := by
      unfold Fc at h
      omega
    rcases Nat.lt_trichotomy x y with e | e | e
    · have := ct_lt (f := fun w => decide (key n A w = key n A y)) e (by simp [g])
      omega
    · exact e
    · have := ct_lt (f := fun w => decide (key n A w = key n A y)) e (by simp)
      omega
  · exact absurd h.symm (Nat.ne_of_lt (pos_up hy g))
/-- numbers below n, all different, are all of them -/
theorem onto {n : Nat} {f : Nat → Nat} (h : ∀ i, i < n → f i < n) (h2 : ∀ i j, i < n → j < n → f i = f j → i = j) {y : Nat} (hy : y < n) : ∃ i, i < n ∧ f i = y := by
  have key : ∀ m, m ≤ n → ct (fun y => (List.range m).any (fun i => f i == y)) n = m := by
    intro m
    induction m with
    | zero =>
      intro _
      have : ∀ k, ct (fun _ => false) k = 0 := by intro k; induction k with
        | zero => rfl
        | succ k ih => rw [ct, ih]; rfl
      simpa using this n
    | succ m ih =>
      intro hm
      have ih := ih (by omega)
      have e : ct (fun y => (List.range (m + 1)).any (fun i => f i == y)) n = ct (fun y => (List.range m).any (fun i => f i == y) || decide (f m = y)) n := by
        apply ct_cong
        intro y _
        rw [List.range_succ, List.any_append]
        simp only [List.any_cons, List.any_nil, Bool.or_false]
        congr 1
      rw [e, ct_add _ _ (fun i _ hh => by
        obtain ⟨a, b⟩ := hh
        rw [List.any_eq_true] at a
        obtain ⟨j, hj, ej⟩ := a
        have hj' := List.mem_range.mp hj
        have : f j = i := by simpa using ej
        have : f m = i := by simpa using b
        have := h2 j m (by omega) (by omega) (by omega)
        omega), ih]
      have one : ∀ v k, ct (fun y => decide (v = y)) k = if v < k then 1 else 0 := by
        intro v k
        induction k with
        | zero => rfl
        | succ k ik =>
          rw [ct, ik]
          by_cases e1 : v = k
          · subst e1; simp
          · by_cases e2 : v < k
            · simp [e1, e2, show v < k + 1 by omega]
            · simp [e1, e2, show ¬ v < k + 1 by omega]
      rw [one, if_pos (h m (by omega))]
  by_cases hh : (List.range n).any (fun i => f i == y) = true
  · rw [List.any_eq_true] at hh
    obtain ⟨i, hi, e⟩ := hh
    exact ⟨i, List.mem_range.mp hi, by simpa using e⟩
  · exfalso
    have h1 := key n (Nat.le_refl _)
    have h3 := ct_ssub (f := fun y => (List.range n).any (fun i => f i == y)) (g := fun _ => true) (n := n) (fun _ _ _ => rfl) hy (by simpa using hh) rfl
    have h4 := ct_le (fun _ => true) n
    omega
/-! values set one after another along a row -/
def sq {α : Type} (row : Nat → Nat) (F : (Nat → α) → Nat → α) (f : Nat → α) : Nat → (Nat → α)
  | 0 => f
  | i + 1 => va_up (sq row F f i) (row i) (F (sq row F f i) (row i))
theorem sq_at {α : Type} {row : Nat → Nat} {F : (Nat → α) → Nat → α} {f : Nat → α} {n : Nat} (hinj : ∀ i j, i < n → j < n → row i = row j → i = j) {i : Nat} : ∀ k, i < k → k ≤ n → sq row F f k (row i) = F (sq row F f i) (row i)
  | 0, h, _ => absurd h (Nat.not_lt_zero _)
  | k + 1, h, hk => by
    rw [sq]
    by_cases e : i = k
    · subst e; exact if_pos rfl
    · have : row i ≠ row k := fun q => e (hinj i k (by omega) (by omega) q)
      show (if row i = row k then _ else _) = _
      rw [if_neg this]
      exact sq_at hinj k (by omega) (by omega)
theorem sq_fix {α : Type} {row : Nat → Nat} {F : (Nat → α) → Nat → α} {f : Nat → α} {n : Nat} (hinj : ∀ i j, i < n → j < n → row i = row j → i = j) (hF : ∀ (g g' : Nat → α) (i : Nat), i < n → (∀ j, j < i → g (row j) = g' (row j)) → F g (row i) = F g' (row i)) {i : Nat} (hi : i < n) : sq row F f n (row i) = F (sq row F f n) (row i) := by
  rw [sq_at hinj n hi (Nat.le_refl _)]
  refine hF _ _ i hi (fun j hj => ?_)
  rw [sq_at hinj i hj (by omega), sq_at hinj n (by omega) (Nat.le_refl _)]
