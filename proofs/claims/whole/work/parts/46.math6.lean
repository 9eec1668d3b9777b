/-! ORDERS MADE OF ORDERS -/
/-- a below b from now on -/
def relA (n : Nat) (A : Nat → Int32) (a b x : Nat) : Int32 := if (decide (x < n) && le A x a) = true then A x ||| upS A b else A x
theorem rel_b {n a b x y : Nat} {A : Nat → Int32} (hx : x < n) : bt (relA n A a b x) y = (bt (A x) y || (le A x a && le A b y)) := by
  rw [relA, decide_eq_true hx, Bool.true_and]
  by_cases h : le A x a = true
  · rw [if_pos h, b_or, up_b, h, Bool.true_and]
  · rw [if_neg h]
    rw [Bool.not_eq_true] at h
    rw [h, Bool.false_and, Bool.or_false]
theorem rel_PO {n a b : Nat} {A : Nat → Int32} (hP : PO n A) (h32 : n ≤ 32) (ha : a < n) (hb : b < n) (hn : le A b a = false) : PO n (relA n A a b) := by
  refine ⟨fun x hx i hi h => ?_, fun x hx => ?_, fun x y w hx hy hw h1 h2 => ?_⟩
  · rw [rel_b hx, Bool.or_eq_true, Bool.and_eq_true] at h
    rcases h with h | h
    · exact hP.1 x hx i hi h
    · exact le_n hP hb h32 hi h.2
  · rw [rel_b hx, hP.2.1 x hx, Bool.false_or, Bool.eq_false_iff]
    intro q
    rw [Bool.and_eq_true] at q
    rw [le_tr hP h32 hb hx ha q.2 q.1] at hn
    cases hn
  · rw [rel_b hx] at h1 ⊢
    rw [rel_b hy] at h2
    rw [Bool.or_eq_true, Bool.and_eq_true] at h1 h2 ⊢
    rcases h1 with h1 | h1
    · rcases h2 with h2 | h2
      · exact Or.inl (hP.2.2 x y w hx hy hw h1 h2)
      · exact Or.inr ⟨le_tr hP h32 hx hy ha (lt_le (by omega) (by omega) h1) h2.1, h2.2⟩
    · rcases h2 with h2 | h2
      · exact Or.inr ⟨h1.1, le_tr hP h32 hb hy hw h1.2 (lt_le (by omega) (by omega) h2)⟩
      · exact Or.inr ⟨h1.1, h2.2⟩
theorem or3 (x y w : Int32) : (x ||| y) ||| w = (x ||| w) ||| y := b_ext fun i _ => by
  rw [b_or, b_or, b_or, b_or]
  cases bt x i <;> cases bt y i <;> cases bt w i <;> rfl
theorem rel_up {n a b x : Nat} {A : Nat → Int32} (hx : x < n) : upS (relA n A a b) x = if le A x a = true then upS A x ||| upS A b else upS A x := by
  rw [upS, relA, decide_eq_true hx, Bool.true_and]
  by_cases h : le A x a = true
  · rw [if_pos h, if_pos h, or3, ← upS]
  · rw [if_neg h, if_neg h, ← upS]
/-- turned round -/
theorem turn_PO {n : Nat} {A : Nat → Int32} (hP : PO n A) (h32 : n ≤ 32) : PO n (bn n A) := by
  refine ⟨fun x hx i hi h => ?_, fun x hx => ?_, fun x y w hx hy hw h1 h2 => ?_⟩
  · rw [bn_bt h32 hi, Bool.and_eq_true, decide_eq_true_eq] at h; exact h.1
  · rw [bn_bt h32 (by omega), hP.2.1 x hx, Bool.and_false]
  · rw [bn_bt h32 (by omega), Bool.and_eq_true, decide_eq_true_eq] at h1 h2 ⊢
    exact ⟨hw, hP.2.2 w y x hw hy hx h2.2 h1.2⟩
/-- a part: its elements are numbered as they come -/
def elN (n : Nat) (s : Int32) (j : Nat) : Nat := scan (fun x => bt s x && decide (ct (bt s) x = j)) id 0 n 0
theorem elN_ct {n x : Nat} {s : Int32} (hx : x < n) (hb : bt s x = true) : elN n s (ct (bt s) x) = x := by
  rw [elN]
  rcases scan_or (p := fun y => bt s y && decide (ct (bt s) y = ct (bt s) x)) (r := id) (d := 0) n 0 with ⟨_, h⟩ | ⟨j, _, h2, h3, h4, _⟩
  · have := h x (Nat.zero_le _) (by omega)
    rw [hb, decide_eq_true rfl] at this; cases this
  · rw [Bool.and_eq_true, decide_eq_true_eq] at h3
    rw [h4]
    show j = x
    rcases Nat.lt_trichotomy j x with q | q | q
    · have := ct_lt (f := bt s) q h3.1; omega
    · exact q
    · have := ct_lt (f := bt s) q hb; omega
theorem elN_in {n j : Nat} {s : Int32} (hj : j < ct (bt s) n) : elN n s j < n ∧ bt s (elN n s j) = true ∧ ct (bt s) (elN n s j) = j := by
  obtain ⟨x, hx, hb, e⟩ := ct_sur hj
  rw [← e, elN_ct hx hb]
  exact ⟨hx, hb, rfl⟩
def parA (n : Nat) (A : Nat → Int32) (s : Int32) (j : Nat) : Int32 := if j < ct (bt s) n then mkset (fun i => bt (A (elN n s j)) (elN n s i)) (ct (bt s) n) else 0
theorem par_b {n j i : Nat} {A : Nat → Int32} {s : Int32} (h16 : n ≤ 16) (hj : j < ct (bt s) n) (hi : i < 32) : bt (parA n A s j) i = (decide (i < ct (bt s) n) && bt (A (elN n s j)) (elN n s i)) := by
  have := ct_le (bt s) n
  rw [parA, if_pos hj, b_mk _ _ (by omega) i hi]
theorem par_PO {n : Nat} {A : Nat → Int32} {s : Int32} (hP : PO n A) (h16 : n ≤ 16) : PO (ct (bt s) n) (parA n A s) := by
  have hc := ct_le (bt s) n
  refine ⟨fun x hx i hi h => ?_, fun x hx => ?_, fun x y w hx hy hw h1 h2 => ?_⟩
  · rw [par_b h16 hx hi, Bool.and_eq_true, decide_eq_true_eq] at h; exact h.1
  · rw [par_b h16 hx (by omega), hP.2.1 _ (elN_in hx).1, Bool.and_false]
  · rw [par_b h16 hx (by omega), Bool.and_eq_true] at h1 ⊢
    rw [par_b h16 hy (by omega), Bool.and_eq_true] at h2
    exact ⟨decide_eq_true hw, hP.2.2 _ _ _ (elN_in hx).1 (elN_in hy).1 (elN_in hw).1 h1.2 h2.2⟩
/-- what is drawn together, bit by bit -/
theorem pkp_b {p : Nat → Bool} {s : Int32} : ∀ n, n ≤ 16 → ∀ i, i < 32 → bt (pkp p s n) i = (decide (i < ct (bt s) n) && p (elN n s i))
  | 0, _, i, hi => by rw [pkp, b_0, ct]; simp
  | n + 1, hn, i, hi => by
    have ih := pkp_b (p := p) (s := s) n (by omega) i hi
    have hc := ct_le (bt s) n
    have hel : ∀ j, j < ct (bt s) n → elN (n + 1) s j = elN n s j := fun j hj => by
      obtain ⟨h1, h2, h3⟩ := elN_in hj
      have := elN_ct (n := n + 1) (s := s) (x := elN n s j) (by omega) h2
      rw [h3] at this
      exact this
    rw [pkp, ct]
    by_cases hb : bt s n = true
    · rw [if_pos hb, if_pos hb, b_or, ih]
      have hn1 : elN (n + 1) s (ct (bt s) n) = n := elN_ct (by omega) hb
      by_cases e : i < ct (bt s) n
      · rw [decide_eq_true e, decide_eq_true (show i < ct (bt s) n + 1 by omega), hel i e]
        by_cases hp : p n = true
        · rw [if_pos hp, b_one _ (by omega) hi, decide_eq_false (show ¬ i = ct (bt s) n by omega), Bool.or_false]
        · rw [if_neg hp, b_0, Bool.or_false]
      · rw [decide_eq_false e, Bool.false_and, Bool.false_or]
        by_cases e2 : i = ct (bt s) n
        · subst e2
          rw [decide_eq_true (Nat.lt_succ_self _), Bool.true_and, hn1]
          by_cases hp : p n = true
          · rw [if_pos hp, b_one _ (by omega) hi, hp]; simp
          · rw [if_neg hp, b_0]
            rw [Bool.not_eq_true] at hp
            rw [hp]
        · rw [decide_eq_false (show ¬ i < ct (bt s) n + 1 by omega), Bool.false_and]
          by_cases hp : p n = true
          · rw [if_pos hp, b_one _ (by omega) hi, decide_eq_false e2]
          · rw [if_neg hp, b_0]
    · rw [if_neg hb, if_neg hb, Nat.add_zero, ih]
      by_cases e : i < ct (bt s) n
      · rw [hel i e]
      · rw [decide_eq_false e]; rfl
theorem par_up {n x : Nat} {A : Nat → Int32} {s : Int32} (h16 : n ≤ 16) (hx : x < n) (hb : bt s x = true) : pkp (le A x) s n = upS (parA n A s) (ct (bt s) x) := by
  have hc := ct_le (bt s) n
  have hlt : ct (bt s) x < ct (bt s) n := Nat.lt_of_succ_le (ct_lt hx hb)
  apply b_ext
  intro i hi
  rw [pkp_b n h16 i hi, upS, b_or, par_b h16 hlt hi, b_one _ (by omega) hi, elN_ct hx hb]
  by_cases e : i < ct (bt s) n
  · obtain ⟨h1, h2, h3⟩ := elN_in e
    rw [decide_eq_true e, Bool.true_and, Bool.true_and, le_b (by omega) (by omega)]
    congr 1
    apply decide_eq_decide.mpr
    exact ⟨fun q => by rw [← q, h3], fun q => by rw [q, elN_ct hx hb]⟩
  · rw [decide_eq_false e, Bool.false_and, Bool.false_and, decide_eq_false (show ¬ i = ct (bt s) x by omega)]; rfl
/-- beside each other, or one upon the other -/
def botA (n k : Nat) (A A0 : Nat → Int32) (up : Bool) (j : Nat) : Int32 := if j < n then A j ||| (if up = true then allS k <<< (nI n &&& 31) else 0) else if j < n + k then A0 (j - n) <<< (nI n &&& 31) else 0
theorem bot_b {n k j i : Nat} {A A0 : Nat → Int32} {up : Bool} (h16 : n + k ≤ 16) (hj : j < n + k) (hi : i < 32) : bt (botA n k A A0 up j) i = if j < n then (bt (A j) i || (up && (decide (n ≤ i) && decide (i < n + k)))) else (decide (n ≤ i) && bt (A0 (j - n)) (i - n)) := by
  rw [botA]
  by_cases e : j < n
  · rw [if_pos e, if_pos e, b_or]
    congr 1
    cases up
    · rw [if_neg (by decide), b_0]; rfl
    · rw [if_pos rfl, b_shl n (by omega) _ hi, b_all k (by omega) _ (by omega), Bool.true_and]
      by_cases q : n ≤ i
      · rw [decide_eq_true q, Bool.true_and, Bool.true_and]
        exact decide_eq_decide.mpr (by omega)
      · rw [decide_eq_false q]; rfl
  · rw [if_neg e, if_neg e, if_pos hj, b_shl n (by omega) _ hi]
theorem bot_PO {n k : Nat} {A A0 : Nat → Int32} {up : Bool} (hP : PO n A) (hP0 : PO k A0) (h16 : n + k ≤ 16) : PO (n + k) (botA n k A A0 up) := by
  refine ⟨fun x hx i hi h => ?_, fun x hx => ?_, fun x y w hx hy hw h1 h2 => ?_⟩
  · rw [bot_b h16 hx hi] at h
    by_cases e : x < n
    · rw [if_pos e, Bool.or_eq_true, Bool.and_eq_true, Bool.and_eq_true, decide_eq_true_eq, decide_eq_true_eq] at h
      rcases h with h | h
      · have := hP.1 x e i hi h; omega
      · exact h.2.2
    · rw [if_neg e, Bool.and_eq_true, decide_eq_true_eq] at h
      have := hP0.1 (x - n) (by omega) (i - n) (by omega) h.2
      omega
  · rw [bot_b h16 hx (by omega)]
    by_cases e : x < n
    · rw [if_pos e, hP.2.1 x e, decide_eq_false (show ¬ n ≤ x by omega)]; simp
    · rw [if_neg e, hP0.2.1 (x - n) (by omega), Bool.and_false]
  · rw [bot_b h16 hx (by omega)] at h1 ⊢
    rw [bot_b h16 hy (by omega)] at h2
    by_cases e : x < n
    · rw [if_pos e] at h1 ⊢
      rw [Bool.or_eq_true, Bool.and_eq_true, Bool.and_eq_true, decide_eq_true_eq, decide_eq_true_eq] at h1 ⊢
      by_cases e2 : y < n
      · rw [if_pos e2, Bool.or_eq_true, Bool.and_eq_true, Bool.and_eq_true, decide_eq_true_eq, decide_eq_true_eq] at h2
        rcases h1 with h1 | h1
        · rcases h2 with h2 | h2
          · have := hP.1 y e2 w (by omega) h2
            exact Or.inl (hP.2.2 x y w e e2 this h1 h2)
          · exact Or.inr h2
        · omega
      · rw [if_neg e2, Bool.and_eq_true, decide_eq_true_eq] at h2
        rcases h1 with h1 | h1
        · have := hP.1 x e y (by omega) h1; omega
        · exact Or.inr ⟨h1.1, h2.1, hw⟩
    · rw [if_neg e] at h1 ⊢
      rw [Bool.and_eq_true, decide_eq_true_eq] at h1 ⊢
      rw [if_neg (show ¬ y < n by omega), Bool.and_eq_true, decide_eq_true_eq] at h2
      exact ⟨h2.1, hP0.2.2 (x - n) (y - n) (w - n) (by omega) (by omega) (by omega) h1.2 h2.2⟩
/-- pairs -/
def prsA (n k : Nat) (A A0 : Nat → Int32) (j : Nat) : Int32 := if j < n * k then mkset (fun b => decide (¬ b = j) && (le A (j / k) (b / k) && le A0 (j % k) (b % k))) (n * k) else 0
theorem prs_b {n k j i : Nat} {A A0 : Nat → Int32} (h16 : n * k ≤ 16) (hj : j < n * k) (hi : i < 32) : bt (prsA n k A A0 j) i = (decide (i < n * k) && (decide (¬ i = j) && (le A (j / k) (i / k) && le A0 (j % k) (i % k)))) := by
  rw [prsA, if_pos hj, b_mk _ _ (by omega) i hi]
theorem dv_lt {n k j : Nat} (hk : 1 ≤ k) (hj : j < n * k) : j / k < n ∧ j % k < k := ⟨(Nat.div_lt_iff_lt_mul (by omega)).mpr hj, Nat.mod_lt _ (by omega)⟩
theorem dv_eq {k i j : Nat} (h1 : i / k = j / k) (h2 : i % k = j % k) : i = j := by rw [← Nat.div_add_mod i k, ← Nat.div_add_mod j k, h1, h2]
theorem prs_PO {n k : Nat} {A A0 : Nat → Int32} (hP : PO n A) (hP0 : PO k A0) (hn : n ≤ 16) (hk : 1 ≤ k) (hk16 : k ≤ 16) (h16 : n * k ≤ 16) : PO (n * k) (prsA n k A A0) := by
  refine ⟨fun x hx i hi h => ?_, fun x hx => ?_, fun x y w hx hy hw h1 h2 => ?_⟩
  · rw [prs_b h16 hx hi, Bool.and_eq_true, decide_eq_true_eq] at h; exact h.1
  · rw [prs_b h16 hx (by omega), decide_eq_false (not_not_intro rfl)]; simp
  · rw [prs_b h16 hx (by omega), Bool.and_eq_true, Bool.and_eq_true, Bool.and_eq_true, decide_eq_true_eq, decide_eq_true_eq] at h1 ⊢
    rw [prs_b h16 hy (by omega), Bool.and_eq_true, Bool.and_eq_true, Bool.and_eq_true, decide_eq_true_eq, decide_eq_true_eq] at h2
    obtain ⟨a1, a2⟩ := dv_lt hk hx
    obtain ⟨b1, b2⟩ := dv_lt hk hy
    obtain ⟨c1, c2⟩ := dv_lt hk hw
    refine ⟨hw, fun e => ?_, le_tr hP (by omega) a1 b1 c1 h1.2.2.1 h2.2.2.1, le_tr hP0 (by omega) a2 b2 c2 h1.2.2.2 h2.2.2.2⟩
    subst e
    exact h1.2.1 (dv_eq (le_as hP (by omega) b1 c1 h2.2.2.1 h1.2.2.1) (le_as hP0 (by omega) b2 c2 h2.2.2.2 h1.2.2.2))
theorem prs_up {n k j : Nat} {A A0 : Nat → Int32} (hn : n ≤ 16) (hk : 1 ≤ k) (hk16 : k ≤ 16) (h16 : n * k ≤ 16) (hj : j < n * k) : upS (prsA n k A A0) j = mkset (fun b => le A (j / k) (b / k) && le A0 (j % k) (b % k)) (n * k) := by
  obtain ⟨a1, a2⟩ := dv_lt hk hj
  refine mk_of (by omega) (fun i hi => ?_)
  rw [upS, b_or, prs_b h16 hj hi, b_one j (by omega) hi]
  by_cases e : i = j
  · subst e
    rw [decide_eq_true rfl, Bool.or_true, decide_eq_true hj, le_rf (by omega), le_rf (by omega)]; rfl
  · rw [decide_eq_false e, Bool.or_false, decide_eq_true e, Bool.true_and]
theorem up_shl {n k j : Nat} {A0 : Nat → Int32} (h16 : n + k ≤ 16) (hP0 : PO k A0) (hj : j < k) : upS A0 j <<< (nI n &&& 31) = (A0 j <<< (nI n &&& 31)) ||| ((1 : Int32) <<< (nI (n + j) &&& 31)) := by
  apply b_ext
  intro i hi
  rw [b_shl n (by omega) _ hi, up_b, b_or, b_shl n (by omega) _ hi, b_one (n + j) (by omega) hi]
  by_cases q : n ≤ i
  · rw [decide_eq_true q, Bool.true_and, Bool.true_and, le_b (by omega) (by omega)]
    congr 1
    exact decide_eq_decide.mpr (by omega)
  · rw [decide_eq_false q, decide_eq_false (show ¬ i = n + j by omega)]; rfl
